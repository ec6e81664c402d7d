section
-- ===== PART A: goes FIRST, ahead of the names: the tables' words, and 'selects' of the private methods out of them =====
/-- a private method of a class that the tables say can be made, by its rows of tables_1 -/
def lw_okq (q : MethodName × Nat) : Prop := (q.1.cls ≠ "java/lang/invoke/MethodHandle" ∧ q.1.cls ≠ "java/lang/invoke/VarHandle") ∧ Cond.instantiable q.1.cls q.2 ∈ tables_1 ∧ Cond.privateMethod q.1 ∈ tables_1 ∧ Cond.instanceMethod q.1 ∈ tables_1
theorem lw_p0 : lw_okq (⟨"CowsOwed", "kindAt", "(I)LCowsOwed$Clan;"⟩, 8) := ⟨⟨by decide +kernel, by decide +kernel⟩, List.mem_of_getElem? (i := 22) (by decide +kernel), List.mem_of_getElem? (i := 386) (by decide +kernel), List.mem_of_getElem? (i := 387) (by decide +kernel)⟩
theorem lw_p1 : lw_okq (⟨"CowsOwed", "hasHills", "()Z"⟩, 8) := ⟨⟨by decide +kernel, by decide +kernel⟩, List.mem_of_getElem? (i := 22) (by decide +kernel), List.mem_of_getElem? (i := 477) (by decide +kernel), List.mem_of_getElem? (i := 478) (by decide +kernel)⟩
theorem lw_p2 : lw_okq (⟨"CowsOwed$Herds", "payDebt", "(II)V"⟩, 5) := ⟨⟨by decide +kernel, by decide +kernel⟩, List.mem_of_getElem? (i := 162) (by decide +kernel), List.mem_of_getElem? (i := 528) (by decide +kernel), List.mem_of_getElem? (i := 529) (by decide +kernel)⟩
theorem lw_p3 : lw_okq (⟨"CowsOwed$Plans", "startOrders", "()V"⟩, 6) := ⟨⟨by decide +kernel, by decide +kernel⟩, List.mem_of_getElem? (i := 116) (by decide +kernel), List.mem_of_getElem? (i := 566) (by decide +kernel), List.mem_of_getElem? (i := 567) (by decide +kernel)⟩
theorem lw_p4 : lw_okq (⟨"CowsOwed$Plans", "marryInOrder", "(LCowsOwed$Herds;)V"⟩, 6) := ⟨⟨by decide +kernel, by decide +kernel⟩, List.mem_of_getElem? (i := 116) (by decide +kernel), List.mem_of_getElem? (i := 574) (by decide +kernel), List.mem_of_getElem? (i := 575) (by decide +kernel)⟩
theorem lw_p5 : lw_okq (⟨"CowsOwed$Plans", "nextOrder", "()Z"⟩, 6) := ⟨⟨by decide +kernel, by decide +kernel⟩, List.mem_of_getElem? (i := 116) (by decide +kernel), List.mem_of_getElem? (i := 583) (by decide +kernel), List.mem_of_getElem? (i := 584) (by decide +kernel)⟩
theorem lw_p6 : lw_okq (⟨"CowsOwed$Plans", "swapTried", "(II)V"⟩, 6) := ⟨⟨by decide +kernel, by decide +kernel⟩, List.mem_of_getElem? (i := 116) (by decide +kernel), List.mem_of_getElem? (i := 587) (by decide +kernel), List.mem_of_getElem? (i := 588) (by decide +kernel)⟩
theorem lw_p7 : lw_okq (⟨"CowsOwed$Told", "canBe", "(LCowsOwed$Clan;)Z"⟩, 3) := ⟨⟨by decide +kernel, by decide +kernel⟩, List.mem_of_getElem? (i := 144) (by decide +kernel), List.mem_of_getElem? (i := 627) (by decide +kernel), List.mem_of_getElem? (i := 628) (by decide +kernel)⟩
theorem lw_p8 : lw_okq (⟨"CowsOwed$Herds", "drawn", "(I)I"⟩, 5) := ⟨⟨by decide +kernel, by decide +kernel⟩, List.mem_of_getElem? (i := 162) (by decide +kernel), List.mem_of_getElem? (i := 666) (by decide +kernel), List.mem_of_getElem? (i := 667) (by decide +kernel)⟩
theorem lw_p9 : lw_okq (⟨"CowsOwed", "mixedShallBe", "(J)J"⟩, 8) := ⟨⟨by decide +kernel, by decide +kernel⟩, List.mem_of_getElem? (i := 22) (by decide +kernel), List.mem_of_getElem? (i := 720) (by decide +kernel), List.mem_of_getElem? (i := 721) (by decide +kernel)⟩
theorem lw_p10 : lw_okq (⟨"CowsOwedModel", "faultOf", "()I"⟩, 38) := ⟨⟨by decide +kernel, by decide +kernel⟩, List.mem_of_getElem? (i := 727) (by decide +kernel), List.mem_of_getElem? (i := 864) (by decide +kernel), List.mem_of_getElem? (i := 865) (by decide +kernel)⟩
theorem lw_p11 : lw_okq (⟨"CowsOwedModel", "go", "(I)Z"⟩, 38) := ⟨⟨by decide +kernel, by decide +kernel⟩, List.mem_of_getElem? (i := 727) (by decide +kernel), List.mem_of_getElem? (i := 868) (by decide +kernel), List.mem_of_getElem? (i := 869) (by decide +kernel)⟩
theorem lw_p12 : lw_okq (⟨"CowsOwedModel", "isClan", "(I)Z"⟩, 38) := ⟨⟨by decide +kernel, by decide +kernel⟩, List.mem_of_getElem? (i := 727) (by decide +kernel), List.mem_of_getElem? (i := 885) (by decide +kernel), List.mem_of_getElem? (i := 886) (by decide +kernel)⟩
theorem lw_p13 : lw_okq (⟨"CowsOwedModel", "clanOf", "(II)I"⟩, 38) := ⟨⟨by decide +kernel, by decide +kernel⟩, List.mem_of_getElem? (i := 727) (by decide +kernel), List.mem_of_getElem? (i := 889) (by decide +kernel), List.mem_of_getElem? (i := 890) (by decide +kernel)⟩
theorem lw_p14 : lw_okq (⟨"CowsOwedModel", "spareOf", "(I)I"⟩, 38) := ⟨⟨by decide +kernel, by decide +kernel⟩, List.mem_of_getElem? (i := 727) (by decide +kernel), List.mem_of_getElem? (i := 898) (by decide +kernel), List.mem_of_getElem? (i := 899) (by decide +kernel)⟩
theorem lw_p15 : lw_okq (⟨"CowsOwedModel", "owesOf", "(I)I"⟩, 38) := ⟨⟨by decide +kernel, by decide +kernel⟩, List.mem_of_getElem? (i := 727) (by decide +kernel), List.mem_of_getElem? (i := 902) (by decide +kernel), List.mem_of_getElem? (i := 903) (by decide +kernel)⟩
def lw_privs_1 : List (MethodName × Nat) := [(⟨"CowsOwed", "kindAt", "(I)LCowsOwed$Clan;"⟩, 8), (⟨"CowsOwed", "hasHills", "()Z"⟩, 8), (⟨"CowsOwed$Herds", "payDebt", "(II)V"⟩, 5), (⟨"CowsOwed$Plans", "startOrders", "()V"⟩, 6), (⟨"CowsOwed$Plans", "marryInOrder", "(LCowsOwed$Herds;)V"⟩, 6), (⟨"CowsOwed$Plans", "nextOrder", "()Z"⟩, 6), (⟨"CowsOwed$Plans", "swapTried", "(II)V"⟩, 6), (⟨"CowsOwed$Told", "canBe", "(LCowsOwed$Clan;)Z"⟩, 3), (⟨"CowsOwed$Herds", "drawn", "(I)I"⟩, 5), (⟨"CowsOwed", "mixedShallBe", "(J)J"⟩, 8), (⟨"CowsOwedModel", "faultOf", "()I"⟩, 38), (⟨"CowsOwedModel", "go", "(I)Z"⟩, 38), (⟨"CowsOwedModel", "isClan", "(I)Z"⟩, 38), (⟨"CowsOwedModel", "clanOf", "(II)I"⟩, 38), (⟨"CowsOwedModel", "spareOf", "(I)I"⟩, 38), (⟨"CowsOwedModel", "owesOf", "(I)I"⟩, 38)]
theorem lw_r1 : ∀ q ∈ lw_privs_1, lw_okq q := List.forall_mem_cons.mpr ⟨lw_p0, List.forall_mem_cons.mpr ⟨lw_p1, List.forall_mem_cons.mpr ⟨lw_p2, List.forall_mem_cons.mpr ⟨lw_p3, List.forall_mem_cons.mpr ⟨lw_p4, List.forall_mem_cons.mpr ⟨lw_p5, List.forall_mem_cons.mpr ⟨lw_p6, List.forall_mem_cons.mpr ⟨lw_p7, List.forall_mem_cons.mpr ⟨lw_p8, List.forall_mem_cons.mpr ⟨lw_p9, List.forall_mem_cons.mpr ⟨lw_p10, List.forall_mem_cons.mpr ⟨lw_p11, List.forall_mem_cons.mpr ⟨lw_p12, List.forall_mem_cons.mpr ⟨lw_p13, List.forall_mem_cons.mpr ⟨lw_p14, List.forall_mem_cons.mpr ⟨lw_p15, fun _ h => absurd h List.not_mem_nil⟩⟩⟩⟩⟩⟩⟩⟩⟩⟩⟩⟩⟩⟩⟩⟩
theorem lw_p16 : lw_okq (⟨"CowsOwedModel", "owedTo", "(I)I"⟩, 38) := ⟨⟨by decide +kernel, by decide +kernel⟩, List.mem_of_getElem? (i := 727) (by decide +kernel), List.mem_of_getElem? (i := 906) (by decide +kernel), List.mem_of_getElem? (i := 907) (by decide +kernel)⟩
theorem lw_p17 : lw_okq (⟨"CowsOwedModel", "lacks", "()Z"⟩, 38) := ⟨⟨by decide +kernel, by decide +kernel⟩, List.mem_of_getElem? (i := 727) (by decide +kernel), List.mem_of_getElem? (i := 919) (by decide +kernel), List.mem_of_getElem? (i := 920) (by decide +kernel)⟩
theorem lw_p18 : lw_okq (⟨"CowsOwedModel", "areTwo", "(II)Z"⟩, 38) := ⟨⟨by decide +kernel, by decide +kernel⟩, List.mem_of_getElem? (i := 727) (by decide +kernel), List.mem_of_getElem? (i := 927) (by decide +kernel), List.mem_of_getElem? (i := 928) (by decide +kernel)⟩
theorem lw_p19 : lw_okq (⟨"CowsOwedModel", "marry", "(III)I"⟩, 38) := ⟨⟨by decide +kernel, by decide +kernel⟩, List.mem_of_getElem? (i := 727) (by decide +kernel), List.mem_of_getElem? (i := 931) (by decide +kernel), List.mem_of_getElem? (i := 932) (by decide +kernel)⟩
theorem lw_p20 : lw_okq (⟨"CowsOwedModel", "pays", "(III)I"⟩, 38) := ⟨⟨by decide +kernel, by decide +kernel⟩, List.mem_of_getElem? (i := 727) (by decide +kernel), List.mem_of_getElem? (i := 935) (by decide +kernel), List.mem_of_getElem? (i := 936) (by decide +kernel)⟩
theorem lw_p21 : lw_okq (⟨"CowsOwedModel", "paysNow", "(III)I"⟩, 38) := ⟨⟨by decide +kernel, by decide +kernel⟩, List.mem_of_getElem? (i := 727) (by decide +kernel), List.mem_of_getElem? (i := 939) (by decide +kernel), List.mem_of_getElem? (i := 940) (by decide +kernel)⟩
theorem lw_p22 : lw_okq (⟨"CowsOwedModel", "passYear", "()V"⟩, 38) := ⟨⟨by decide +kernel, by decide +kernel⟩, List.mem_of_getElem? (i := 727) (by decide +kernel), List.mem_of_getElem? (i := 956) (by decide +kernel), List.mem_of_getElem? (i := 957) (by decide +kernel)⟩
theorem lw_p23 : lw_okq (⟨"CowsOwedModel", "owedAll", "()I"⟩, 38) := ⟨⟨by decide +kernel, by decide +kernel⟩, List.mem_of_getElem? (i := 727) (by decide +kernel), List.mem_of_getElem? (i := 960) (by decide +kernel), List.mem_of_getElem? (i := 961) (by decide +kernel)⟩
theorem lw_p24 : lw_okq (⟨"CowsOwedModel", "settledOf", "()I"⟩, 38) := ⟨⟨by decide +kernel, by decide +kernel⟩, List.mem_of_getElem? (i := 727) (by decide +kernel), List.mem_of_getElem? (i := 968) (by decide +kernel), List.mem_of_getElem? (i := 969) (by decide +kernel)⟩
theorem lw_p25 : lw_okq (⟨"CowsOwedModel", "orderOf", "(I)I"⟩, 38) := ⟨⟨by decide +kernel, by decide +kernel⟩, List.mem_of_getElem? (i := 727) (by decide +kernel), List.mem_of_getElem? (i := 984) (by decide +kernel), List.mem_of_getElem? (i := 985) (by decide +kernel)⟩
theorem lw_p26 : lw_okq (⟨"CowsOwedModel", "layOrder", "()I"⟩, 38) := ⟨⟨by decide +kernel, by decide +kernel⟩, List.mem_of_getElem? (i := 727) (by decide +kernel), List.mem_of_getElem? (i := 988) (by decide +kernel), List.mem_of_getElem? (i := 989) (by decide +kernel)⟩
theorem lw_p27 : lw_okq (⟨"CowsOwedModel", "layAside", "()V"⟩, 38) := ⟨⟨by decide +kernel, by decide +kernel⟩, List.mem_of_getElem? (i := 727) (by decide +kernel), List.mem_of_getElem? (i := 992) (by decide +kernel), List.mem_of_getElem? (i := 993) (by decide +kernel)⟩
theorem lw_p28 : lw_okq (⟨"CowsOwedModel", "isOrder", "(I)Z"⟩, 38) := ⟨⟨by decide +kernel, by decide +kernel⟩, List.mem_of_getElem? (i := 727) (by decide +kernel), List.mem_of_getElem? (i := 999) (by decide +kernel), List.mem_of_getElem? (i := 1000) (by decide +kernel)⟩
theorem lw_p29 : lw_okq (⟨"CowsOwedModel", "layBack", "()V"⟩, 38) := ⟨⟨by decide +kernel, by decide +kernel⟩, List.mem_of_getElem? (i := 727) (by decide +kernel), List.mem_of_getElem? (i := 1003) (by decide +kernel), List.mem_of_getElem? (i := 1004) (by decide +kernel)⟩
theorem lw_p30 : lw_okq (⟨"CowsOwedModel", "highOf", "()I"⟩, 38) := ⟨⟨by decide +kernel, by decide +kernel⟩, List.mem_of_getElem? (i := 727) (by decide +kernel), List.mem_of_getElem? (i := 1011) (by decide +kernel), List.mem_of_getElem? (i := 1012) (by decide +kernel)⟩
theorem lw_p31 : lw_okq (⟨"CowsOwedModel", "whichOf", "()I"⟩, 38) := ⟨⟨by decide +kernel, by decide +kernel⟩, List.mem_of_getElem? (i := 727) (by decide +kernel), List.mem_of_getElem? (i := 1028) (by decide +kernel), List.mem_of_getElem? (i := 1029) (by decide +kernel)⟩
def lw_privs_2 : List (MethodName × Nat) := [(⟨"CowsOwedModel", "owedTo", "(I)I"⟩, 38), (⟨"CowsOwedModel", "lacks", "()Z"⟩, 38), (⟨"CowsOwedModel", "areTwo", "(II)Z"⟩, 38), (⟨"CowsOwedModel", "marry", "(III)I"⟩, 38), (⟨"CowsOwedModel", "pays", "(III)I"⟩, 38), (⟨"CowsOwedModel", "paysNow", "(III)I"⟩, 38), (⟨"CowsOwedModel", "passYear", "()V"⟩, 38), (⟨"CowsOwedModel", "owedAll", "()I"⟩, 38), (⟨"CowsOwedModel", "settledOf", "()I"⟩, 38), (⟨"CowsOwedModel", "orderOf", "(I)I"⟩, 38), (⟨"CowsOwedModel", "layOrder", "()I"⟩, 38), (⟨"CowsOwedModel", "layAside", "()V"⟩, 38), (⟨"CowsOwedModel", "isOrder", "(I)Z"⟩, 38), (⟨"CowsOwedModel", "layBack", "()V"⟩, 38), (⟨"CowsOwedModel", "highOf", "()I"⟩, 38), (⟨"CowsOwedModel", "whichOf", "()I"⟩, 38)]
theorem lw_r2 : ∀ q ∈ lw_privs_2, lw_okq q := List.forall_mem_cons.mpr ⟨lw_p16, List.forall_mem_cons.mpr ⟨lw_p17, List.forall_mem_cons.mpr ⟨lw_p18, List.forall_mem_cons.mpr ⟨lw_p19, List.forall_mem_cons.mpr ⟨lw_p20, List.forall_mem_cons.mpr ⟨lw_p21, List.forall_mem_cons.mpr ⟨lw_p22, List.forall_mem_cons.mpr ⟨lw_p23, List.forall_mem_cons.mpr ⟨lw_p24, List.forall_mem_cons.mpr ⟨lw_p25, List.forall_mem_cons.mpr ⟨lw_p26, List.forall_mem_cons.mpr ⟨lw_p27, List.forall_mem_cons.mpr ⟨lw_p28, List.forall_mem_cons.mpr ⟨lw_p29, List.forall_mem_cons.mpr ⟨lw_p30, List.forall_mem_cons.mpr ⟨lw_p31, fun _ h => absurd h List.not_mem_nil⟩⟩⟩⟩⟩⟩⟩⟩⟩⟩⟩⟩⟩⟩⟩⟩
theorem lw_p32 : lw_okq (⟨"CowsOwedModel", "askOf", "()I"⟩, 38) := ⟨⟨by decide +kernel, by decide +kernel⟩, List.mem_of_getElem? (i := 727) (by decide +kernel), List.mem_of_getElem? (i := 1036) (by decide +kernel), List.mem_of_getElem? (i := 1037) (by decide +kernel)⟩
theorem lw_p33 : lw_okq (⟨"CowsOwedModel", "draw", "(I)I"⟩, 38) := ⟨⟨by decide +kernel, by decide +kernel⟩, List.mem_of_getElem? (i := 727) (by decide +kernel), List.mem_of_getElem? (i := 1046) (by decide +kernel), List.mem_of_getElem? (i := 1047) (by decide +kernel)⟩
theorem lw_p34 : lw_okq (⟨"CowsOwedModel", "cowsAll", "()I"⟩, 38) := ⟨⟨by decide +kernel, by decide +kernel⟩, List.mem_of_getElem? (i := 727) (by decide +kernel), List.mem_of_getElem? (i := 1054) (by decide +kernel), List.mem_of_getElem? (i := 1055) (by decide +kernel)⟩
theorem lw_p35 : lw_okq (⟨"CowsOwedModel", "countOf", "(I)I"⟩, 38) := ⟨⟨by decide +kernel, by decide +kernel⟩, List.mem_of_getElem? (i := 727) (by decide +kernel), List.mem_of_getElem? (i := 1070) (by decide +kernel), List.mem_of_getElem? (i := 1071) (by decide +kernel)⟩
theorem lw_p36 : lw_okq (⟨"CowsOwedModel", "sayClan", "(I)V"⟩, 38) := ⟨⟨by decide +kernel, by decide +kernel⟩, List.mem_of_getElem? (i := 727) (by decide +kernel), List.mem_of_getElem? (i := 1079) (by decide +kernel), List.mem_of_getElem? (i := 1080) (by decide +kernel)⟩
theorem lw_p37 : lw_okq (⟨"CowsOwedModel", "say", "(J)V"⟩, 38) := ⟨⟨by decide +kernel, by decide +kernel⟩, List.mem_of_getElem? (i := 727) (by decide +kernel), List.mem_of_getElem? (i := 1083) (by decide +kernel), List.mem_of_getElem? (i := 1084) (by decide +kernel)⟩
def lw_privs_3 : List (MethodName × Nat) := [(⟨"CowsOwedModel", "askOf", "()I"⟩, 38), (⟨"CowsOwedModel", "draw", "(I)I"⟩, 38), (⟨"CowsOwedModel", "cowsAll", "()I"⟩, 38), (⟨"CowsOwedModel", "countOf", "(I)I"⟩, 38), (⟨"CowsOwedModel", "sayClan", "(I)V"⟩, 38), (⟨"CowsOwedModel", "say", "(J)V"⟩, 38)]
theorem lw_r3 : ∀ q ∈ lw_privs_3, lw_okq q := List.forall_mem_cons.mpr ⟨lw_p32, List.forall_mem_cons.mpr ⟨lw_p33, List.forall_mem_cons.mpr ⟨lw_p34, List.forall_mem_cons.mpr ⟨lw_p35, List.forall_mem_cons.mpr ⟨lw_p36, List.forall_mem_cons.mpr ⟨lw_p37, fun _ h => absurd h List.not_mem_nil⟩⟩⟩⟩⟩⟩
def lw_privs : List (MethodName × Nat) := lw_privs_1 ++ (lw_privs_2 ++ (lw_privs_3))
def lw_tbl : List Cond := k2_sels lw_privs ++ tables_1
theorem lw_privs_ok : ∀ q ∈ lw_privs, lw_okq q := by
  show ∀ q ∈ lw_privs_1 ++ (lw_privs_2 ++ (lw_privs_3)), lw_okq q
  exact List.forall_mem_append.mpr ⟨lw_r1, List.forall_mem_append.mpr ⟨lw_r2, lw_r3⟩⟩
end
section
/-! ===== BEGIN words of one list among another's, by their places ===== -/
theorem goodIn_r {big : List Cond} (ws : List Cond) (ps : List Nat) (hp : ws = ps.filterMap (fun i => big[i]?)) (h : ws.all goodWord = true) : GoodIn big ws := by
  intro w hw
  have h1 := List.all_eq_true.mp h w hw
  rw [hp] at hw
  obtain ⟨i, -, hi⟩ := List.mem_filterMap.mp hw
  have hm : w ∈ big := by first | exact List.mem_of_getElem? hi | exact List.getElem?_mem hi
  exact ⟨hm, good_of_word h1⟩
theorem goodIn_app {big a b : List Cond} (ha : GoodIn big a) (hb : GoodIn big b) : GoodIn big (a ++ b) := fun w h => (List.mem_append.mp h).elim (ha w) (hb w)
theorem goodIn_ca {big a b : List Cond} {c : Cond} (ha : GoodIn big (c :: a)) (hb : GoodIn big b) : GoodIn big (c :: (a ++ b)) := fun w h => (List.mem_cons.mp h).elim (fun e => ha w (List.mem_cons.mpr (Or.inl e))) (fun h => (List.mem_append.mp h).elim (fun h => ha w (List.mem_cons.mpr (Or.inr h))) (hb w))
theorem goodIn_sub {big ws : List Cond} (hm : ∀ w ∈ ws, w ∈ big) (h : ws.all goodWord = true) : GoodIn big ws := fun w hw => ⟨hm w hw, good_of_word (List.all_eq_true.mp h w hw)⟩
/-! ===== END ===== -/

/-! ===== BEGIN new T[n][m]: the outer array a place, the inner ones among the pooled ===== -/
/-- f, but v at every address of l -/
def vr_up {α : Type} (f : Nat → α) (l : List Nat) (v : α) : Nat → α := fun a => if a ∈ l then v else f a
theorem vr_up_in {α : Type} {f : Nat → α} {l : List Nat} {v : α} {a : Nat} (h : a ∈ l) : vr_up f l v a = v := if_pos h
theorem vr_up_ne {α : Type} {f : Nat → α} {l : List Nat} {v : α} {a : Nat} (h : a ∉ l) : vr_up f l v a = f a := if_neg h
theorem vr_rows {L l : List Nat} {f : Nat → va_E} {e : va_E} (h : ∀ a, a ∈ l → a ∉ L) : va_pl L f ++ l.map (fun a => (a, e)) = va_pl (L ++ l) (vr_up f l e) := by
  unfold va_pl
  rw [List.map_append]
  congr 1
  · apply List.map_congr_left
    intro a ha
    rw [vr_up_ne (fun q => h a q ha)]
  · apply List.map_congr_left
    intro a ha
    rw [vr_up_in ha]
theorem vr_lay {X rows : va_W} {x : Nat × va_E} {pl : va_W} {D : va_G} {cl : List vw_C} {H : Heap} (hP : va_P D cl (((X ++ pl) ++ [x]) ++ rows) H) : va_P D cl ((X ++ [x]) ++ (pl ++ rows)) H := by
  rw [List.append_assoc (X ++ pl)] at hP
  have h := va_P.swap hP
  rw [← List.append_assoc X] at h
  have h2 := va_P.swap h
  rw [List.append_assoc (X ++ [x])] at h2
  exact h2
theorem vr_layD {X rows : va_W} {x : Nat × va_E} {pl : va_W} {A : Nat → Prop} (hD : va_D A (((X ++ pl) ++ [x]) ++ rows)) : va_D A ((X ++ [x]) ++ (pl ++ rows)) := by
  rw [List.append_assoc (X ++ pl)] at hD
  have h := va_D.swap hD
  rw [← List.append_assoc X] at h
  have h2 := va_D.swap h
  rw [List.append_assoc (X ++ [x])] at h2
  exact h2
theorem vr_outer (c : ClassId) (N h0 : Nat) : ∀ i : Nat, Jvm.Free.Multi.outerC c N h0 i = arrV c N (fun j => va_rf (if j < i then some (h0 + 1 + j) else none))
  | 0 => by
    show ({ cls := c, slots := Array.replicate N .null, vm := .none } : Cell) = _
    rw [arrV_new]
    refine congrArg (arrV c N) (funext fun j => ?_)
    simp [va_rf]
  | i + 1 => by
    show (Jvm.Free.Multi.outerC c N h0 i).setSlot i (.ref (h0 + 1 + i)) = _
    rw [vr_outer c N h0 i, arrV_store]
    refine congrArg (arrV c N) (funext fun j => ?_)
    by_cases e : j = i
    · subst e
      simp [updV, va_rf]
    · by_cases h : j < i
      · simp [updV, e, h, Nat.lt_succ_of_lt h]
      · simp [updV, e, h, show ¬ j < i + 1 by omega]
/-- what the tables say of an array of arrays (wanted by va_mna below; the kit has va_AO for arrays of objects alone) -/
def va_AOA (ty : FieldType) (U : State) : Prop := (Cond.arrayOver (.array ty)).before #[] U = true
theorem va_AOA.of {ty : FieldType} {A : Array Value} {U : State} (h : (Cond.arrayOver (.array ty)).before A U = true) : va_AOA ty U := h
theorem va_AOA.use {ty : FieldType} {A : Array Value} {U : State} (h : va_AOA ty U) : (Cond.arrayOver (.array ty)).before A U = true := h
section VGM
variable {p : Program} {l : Launch} {e : Env} {R : Room} {s : State} {m : MethodId} {args : Array Value} {below : List Frame} {meth : Method} {c : Code} {H : Heap} {locs : List Loc} {cells slots : Nat} {Q : State → Prop}
variable {cc : ByteArray} {pc : Nat} {ls : Array Slot} {rest : List Value} {D : va_G} {cl : List vw_C} {A : Nat → Prop} {a : Nat} {tys : List (ClassId × FieldType)} {ws : va_W} {H0 : Heap}
theorem va_mna {X : va_W} {L : List Nat} {f : Nat → va_E} {cc : ByteArray} (hexec : p.tables.exec = Jvm.exec) (hb : c.code = cc) {own : String} {index : Nat} {ty : FieldType} {cy : ClassId} (hown : s.vm.findClass own = some m.cls) (hclink : (Cond.classLink own index ("[" ++ (FieldType.array ty).toString)).before args s = true) (hover : va_AOA ty s) (harr : (Cond.arrayClass ty).before args s = true) (hcy : s.vm.findClass (FieldType.array ty).toString = some cy)
    (hK : va_K D cl tys s) (hP : va_P D cl (X ++ va_pl L f) H) (hD : va_D A (X ++ va_pl L f)) (hS : va_S A H0 H locs) (hA : ∀ q, H0.size ≤ q → A q) {n k : Int32} {N' K' : Nat} {z : vp_A} (hn : ¬ n < 0) (hk : ¬ k < 0) (hN : n.toNatClampNeg = N') (hM : k.toNatClampNeg = K')
    (hb1 : N' * 4 ≤ 536870912) (hb2 : K' * componentBytes ty ≤ 536870912) (hb3 : K' ≤ 536870912) (hdf : fits ty (defaultValue ty) = true) (hdd : (defaultValue ty).isDefault = true) (hcells : cells + (1 + N') ≤ R.cells) (hslots : slots + (N' + N' * K') ≤ R.slots) (hz : ∀ c : ClassId, Jvm.Free.Multi.innerC c K' (defaultValue ty) = vp_cell c z) (hdg : decode cc pc = .ok (.multianewarray index 2, 4))
    (kk : ∀ (q : Nat) (r : Nat → Nat) (cA : ClassId) (H1 : Heap), (∀ i j : Nat, i < N' → j < N' → r i = r j → i = j) → (∀ i : Nat, i < N' → r i ∉ L) → va_K D cl (tys ++ [(cA, .array ty)]) s →
      va_P D cl ((X ++ [(q, .inl (cA, N', .inr (.inr (.inr (.inr (fun i => if i < N' then some (r i) else none))))))]) ++ va_pl (L ++ (List.range N').map r) (vr_up f ((List.range N').map r) (.inl (cy, z)))) H1 → va_D A ((X ++ [(q, .inl (cA, N', .inr (.inr (.inr (.inr (fun i => if i < N' then some (r i) else none))))))]) ++ va_pl (L ++ (List.range N').map r) (vr_up f ((List.range N').map r) (.inl (cy, z)))) → va_S A H0 H1 locs →
      W p l e R s m args below meth c H1 locs (cells + 1 + N') (slots + N' + N' * K') Q (F0 m (pc + 4) ls (.ref q :: rest))) : W p l e R s m args below meth c H locs cells slots Q (F0 m pc ls (.int k :: .int n :: rest)) := by
  subst hN
  subst hM
  intro T hT Xs
  obtain ⟨vm₁, cA, comp, -, fA, fC, hO, -, X', step⟩ := Xs.multianewarray2F hexec hown hclink (va_AOA.use hover) harr (g := F0 m pc ls (.int k :: .int n :: rest)) rfl (by rw [hb]; exact hdg) rfl hn hk hb1 hb2 hb3 hdf hdd hcells hslots
  have ec : some cy = some comp := hcy.symm.trans fC
  cases ec
  generalize hF : Jvm.Free.Multi.fill (T.setVm vm₁) cA cy n.toNatClampNeg k.toNatClampNeg (defaultValue ty) n.toNatClampNeg = F at X' step
  have hTh : (T.setVm vm₁).heap = H := hT
  obtain ⟨f1, f2, -, -⟩ := Jvm.Free.Multi.fill_facts (T.setVm vm₁) cA cy n.toNatClampNeg k.toNatClampNeg (defaultValue ty) n.toNatClampNeg
  rw [hF, hTh] at f1 f2
  have hold : ∀ x : Nat, x < H.size → F.heap[x]? = H[x]? := fun x hx => by
    have := Jvm.Free.Multi.fill_old (T.setVm vm₁) cA cy n.toNatClampNeg k.toNatClampNeg (defaultValue ty) (a := x) (by rw [hTh]; exact hx) n.toNatClampNeg
    rw [hF, hTh] at this
    exact this
  have hrow : ∀ j : Nat, j < n.toNatClampNeg → F.heap[H.size + 1 + j]? = some (vp_cell cy z) := fun j hj => by
    have := Jvm.Free.Multi.fill_inner (T.setVm vm₁) cA cy n.toNatClampNeg k.toNatClampNeg (defaultValue ty) n.toNatClampNeg j hj
    rw [hF, hTh, hz] at this
    exact this
  have hout : Jvm.Free.Multi.outerC cA n.toNatClampNeg H.size n.toNatClampNeg = vp_cell cA (n.toNatClampNeg, .inr (.inr (.inr (.inr (fun i => if i < n.toNatClampNeg then some (H.size + 1 + i) else none))))) := by
    rw [vp_cell_q]
    exact vr_outer cA n.toNatClampNeg H.size n.toNatClampNeg
  rw [hout] at f2
  have hlt : ∀ a, a ∈ L → a < H.size := fun a ha => by
    obtain ⟨k9, hk9⟩ := va_pl_get (X := X) (f := f) ha
    exact (hP k9 _ hk9).lt
  have hnl : ∀ i : Nat, i < n.toNatClampNeg → H.size + 1 + i ∉ L := fun i _ h => by
    have := hlt _ h
    omega
  have hnm : ∀ a, a ∈ (List.range n.toNatClampNeg).map (fun i => H.size + 1 + i) → a ∉ L := fun a ha h => by
    obtain ⟨i, -, rfl⟩ := List.mem_map.mp ha
    have := hlt _ h
    omega
  have hP0 : va_P D cl (X ++ va_pl L f) F.heap := hP.kept (fun k9 x hx => hold x.1 ((hP k9 x hx).lt))
  have hP1 : va_P D cl ((X ++ va_pl L f) ++ [(H.size, .inl (cA, n.toNatClampNeg, .inr (.inr (.inr (.inr (fun i => if i < n.toNatClampNeg then some (H.size + 1 + i) else none))))))]) F.heap := hP0.app (fun k9 x hx => by
    have h0 : k9 < 1 := (List.getElem?_eq_some_iff.mp hx).1
    rw [show k9 = 0 by omega] at hx
    cases hx
    exact f2)
  have hP2 : va_P D cl (((X ++ va_pl L f) ++ [(H.size, .inl (cA, n.toNatClampNeg, .inr (.inr (.inr (.inr (fun i => if i < n.toNatClampNeg then some (H.size + 1 + i) else none))))))]) ++ ((List.range n.toNatClampNeg).map (fun i => H.size + 1 + i)).map (fun a => (a, .inl (cy, z)))) F.heap := hP1.app (fun k9 x hx => by
    obtain ⟨a, ha, rfl⟩ := List.mem_map.mp (List.mem_of_getElem? hx)
    obtain ⟨i, hi, rfl⟩ := List.mem_map.mp ha
    exact hrow i (List.mem_range.mp hi))
  have hD2 : va_D A (((X ++ va_pl L f) ++ [(H.size, .inl (cA, n.toNatClampNeg, .inr (.inr (.inr (.inr (fun i => if i < n.toNatClampNeg then some (H.size + 1 + i) else none))))))]) ++ ((List.range n.toNatClampNeg).map (fun i => H.size + 1 + i)).map (fun a => (a, .inl (cy, z)))) := by
    have hD1 := hD.push (e := .inl (cA, n.toNatClampNeg, .inr (.inr (.inr (.inr (fun i => if i < n.toNatClampNeg then some (H.size + 1 + i) else none)))))) hP rfl (hA _ hS.1)
    generalize hW1 : (X ++ va_pl L f) ++ [(H.size, .inl (cA, n.toNatClampNeg, .inr (.inr (.inr (.inr (fun i => if i < n.toNatClampNeg then some (H.size + 1 + i) else none))))))] = W1 at hD1 hP1 ⊢
    have hle : ∀ (k9 : Nat) (x : Nat × va_E), W1[k9]? = some x → x.1 ≤ H.size := fun k9 x hx => by
      rw [← hW1] at hx
      by_cases hl : k9 < (X ++ va_pl L f).length
      · rw [List.getElem?_append_left hl] at hx
        exact Nat.le_of_lt ((hP k9 x hx).lt)
      · rw [List.getElem?_append_right (by omega)] at hx
        have h0 : k9 - (X ++ va_pl L f).length < 1 := (List.getElem?_eq_some_iff.mp hx).1
        rw [show k9 - (X ++ va_pl L f).length = 0 by omega] at hx
        cases hx
        exact Nat.le_refl _
    have hr : ∀ (k9 : Nat) (x : Nat × va_E), (((List.range n.toNatClampNeg).map (fun i => H.size + 1 + i)).map (fun a => ((a, .inl (cy, z)) : Nat × va_E)))[k9]? = some x → x.1 = H.size + 1 + k9 := fun k9 x hx => by
      rw [List.getElem?_map, List.getElem?_map] at hx
      by_cases h9 : k9 < n.toNatClampNeg
      · rw [List.getElem?_range h9] at hx
        cases hx
        rfl
      · have hn0 : (List.range n.toNatClampNeg)[k9]? = none := List.getElem?_eq_none (by rw [List.length_range]; omega)
        rw [hn0] at hx
        cases hx
    refine ⟨fun i j x y hi hj hxy => ?_, fun k9 x hx => ?_⟩
    · by_cases h1 : i < W1.length <;> by_cases h2 : j < W1.length
      · rw [List.getElem?_append_left h1] at hi
        rw [List.getElem?_append_left h2] at hj
        exact hD1.1 i j x y hi hj hxy
      · rw [List.getElem?_append_left h1] at hi
        rw [List.getElem?_append_right (by omega)] at hj
        have := hle _ _ hi
        have := hr _ _ hj
        omega
      · rw [List.getElem?_append_right (by omega)] at hi
        rw [List.getElem?_append_left h2] at hj
        have := hle _ _ hj
        have := hr _ _ hi
        omega
      · rw [List.getElem?_append_right (by omega)] at hi hj
        have := hr _ _ hi
        have := hr _ _ hj
        omega
    · by_cases h1 : k9 < W1.length
      · rw [List.getElem?_append_left h1] at hx
        exact hD1.2 k9 x hx
      · rw [List.getElem?_append_right (by omega)] at hx
        have := hr _ _ hx
        exact hA _ (by have := hS.1; omega)
  have hAr : ArrOfT s cA (.array ty) := fun N9 z9 => by
    obtain ⟨-, k9, hk9, cm9, hkk9⟩ := (hO 0 0 0).1
    exact ⟨(fun q hq => by cases hq), k9, hk9, cm9, hkk9⟩
  have hK2 : va_K D cl (tys ++ [(cA, .array ty)]) s := ⟨hK.1, fun k9 x hx => by
    by_cases hl : k9 < tys.length
    · rw [List.getElem?_append_left hl] at hx
      exact hK.2 k9 x hx
    · rw [List.getElem?_append_right (by omega)] at hx
      have h0 : k9 - tys.length < 1 := (List.getElem?_eq_some_iff.mp hx).1
      rw [show k9 - tys.length = 0 by omega] at hx
      cases hx
      exact ⟨hAr, fA⟩⟩
  obtain ⟨t, a1, b1⟩ := kk H.size (fun i => H.size + 1 + i) cA F.heap (fun i j _ _ h => by have h9 : H.size + 1 + i = H.size + 1 + j := h; omega) hnl hK2 (by rw [← vr_rows hnm]; exact vr_lay hP2) (by rw [← vr_rows hnm]; exact vr_layD hD2) ⟨by rw [f1]; have := hS.1; omega, fun x h1 h2 => (hold x (Nat.lt_of_lt_of_le h1 hS.1)).trans (hS.2.1 x h1 h2), hS.2.2⟩ F rfl X'
  refine ⟨t, step t ?_, b1⟩
  have e : T.heap.size = H.size := by rw [hT]
  rw [e]
  exact a1
end VGM
/-! ===== END ===== -/

/-! ===== BEGIN printed: names, fields, word lists, decode rows ===== -/
def RX0 : String := "CowsOwed$Careful"
def TX0 : u_T := fun k => match k with
  | _ => ("", "", "", false)
def tyX0 : Nat → FieldType := fun k => match k with
  | _ => .int
abbrev wsX00 : List Cond := u_ws RX0 TX0 0
theorem nmX0 : ∀ a, a < 0 → ∀ b, b < 0 → a ≠ b → (TX0 a).2.1 ≠ (TX0 b).2.1 := by decide +kernel
theorem tyX0_ok : ∀ k, k < 0 → parseFieldDescriptor (TX0 k).2.2.1 = some (tyX0 k) := by decide +kernel
abbrev cX0_init : ByteArray := prog_2_method_1_code
def yX0_init : MethodName := ⟨RX0, "<init>", "()V"⟩
abbrev cX0_number : ByteArray := prog_2_method_2_code
def yX0_number : MethodName := ⟨RX0, "number", "()I"⟩
abbrev cX0_spares : ByteArray := prog_2_method_3_code
def yX0_spares : MethodName := ⟨RX0, "spares", "(I)I"⟩
def RX1 : String := "CowsOwed$Clan"
def TX1 : u_T := fun k => match k with
  | _ => ("", "", "", false)
def tyX1 : Nat → FieldType := fun k => match k with
  | _ => .int
abbrev wsX10 : List Cond := u_ws RX1 TX1 0
theorem nmX1 : ∀ a, a < 0 → ∀ b, b < 0 → a ≠ b → (TX1 a).2.1 ≠ (TX1 b).2.1 := by decide +kernel
theorem tyX1_ok : ∀ k, k < 0 → parseFieldDescriptor (TX1 k).2.2.1 = some (tyX1 k) := by decide +kernel
abbrev cX1_init : ByteArray := prog_3_method_1_code
def yX1_init : MethodName := ⟨RX1, "<init>", "()V"⟩
abbrev cX1_number : ByteArray := prog_3_method_2_code
def yX1_number : MethodName := ⟨RX1, "number", "()I"⟩
abbrev cX1_asks : ByteArray := prog_3_method_3_code
def yX1_asks : MethodName := ⟨RX1, "asks", "(I)I"⟩
abbrev cX1_spares : ByteArray := prog_3_method_4_code
def yX1_spares : MethodName := ⟨RX1, "spares", "(I)I"⟩
def RX2 : String := "CowsOwed$Herds"
def TX2 : u_T := fun k => match k with
  | 0 => ("CowsOwed$Herds", "clans", "[LCowsOwed$Clan;", true)
  | 1 => ("CowsOwed$Herds", "cows", "[I", true)
  | 2 => ("CowsOwed$Herds", "debts", "[[I", true)
  | 3 => ("CowsOwed$Herds", "size", "I", false)
  | _ => ("CowsOwed$Herds", "price", "I", false)
def tyX2 : Nat → FieldType := fun k => match k with
  | 0 => .array (.object "CowsOwed$Clan")
  | 1 => .array .int
  | 2 => .array (.array .int)
  | 3 => .int
  | _ => .int
abbrev wsX20 : List Cond := u_ws RX2 TX2 5
theorem nmX2 : ∀ a, a < 5 → ∀ b, b < 5 → a ≠ b → (TX2 a).2.1 ≠ (TX2 b).2.1 := by decide +kernel
theorem tyX2_ok : ∀ k, k < 5 → parseFieldDescriptor (TX2 k).2.2.1 = some (tyX2 k) := by decide +kernel
abbrev cX2_init : ByteArray := prog_4_method_1_code
def yX2_init : MethodName := ⟨RX2, "<init>", "([LCowsOwed$Clan;)V"⟩
abbrev cX2_begin : ByteArray := prog_4_method_2_code
def yX2_begin : MethodName := ⟨RX2, "begin", "(II)V"⟩
abbrev cX2_copyFrom : ByteArray := prog_4_method_3_code
def yX2_copyFrom : MethodName := ⟨RX2, "copyFrom", "(LCowsOwed$Herds;)V"⟩
abbrev cX2_knows : ByteArray := prog_4_method_4_code
def yX2_knows : MethodName := ⟨RX2, "knows", "(I)Z"⟩
abbrev cX2_knowsCouple : ByteArray := prog_4_method_5_code
def yX2_knowsCouple : MethodName := ⟨RX2, "knowsCouple", "(II)Z"⟩
abbrev cX2_askedBy : ByteArray := prog_4_method_6_code
def yX2_askedBy : MethodName := ⟨RX2, "askedBy", "(I)I"⟩
abbrev cX2_sparedBy : ByteArray := prog_4_method_7_code
def yX2_sparedBy : MethodName := ⟨RX2, "sparedBy", "(I)I"⟩
abbrev cX2_marry : ByteArray := prog_4_method_8_code
def yX2_marry : MethodName := ⟨RX2, "marry", "(II)I"⟩
abbrev cX2_pay : ByteArray := prog_4_method_9_code
def yX2_pay : MethodName := ⟨RX2, "pay", "(III)I"⟩
abbrev cX2_passYear : ByteArray := prog_4_method_10_code
def yX2_passYear : MethodName := ⟨RX2, "passYear", "()V"⟩
abbrev cX2_payDebt : ByteArray := prog_4_method_11_code
def yX2_payDebt : MethodName := ⟨RX2, "payDebt", "(II)V"⟩
abbrev cX2_grown : ByteArray := prog_4_method_12_code
def yX2_grown : MethodName := ⟨RX2, "grown", "(I)I"⟩
abbrev cX2_owedBy : ByteArray := prog_4_method_13_code
def yX2_owedBy : MethodName := ⟨RX2, "owedBy", "(I)I"⟩
abbrev cX2_owedTo : ByteArray := prog_4_method_14_code
def yX2_owedTo : MethodName := ⟨RX2, "owedTo", "(I)I"⟩
abbrev cX2_allOwed : ByteArray := prog_4_method_15_code
def yX2_allOwed : MethodName := ⟨RX2, "allOwed", "()I"⟩
abbrev cX2_allCows : ByteArray := prog_4_method_16_code
def yX2_allCows : MethodName := ⟨RX2, "allCows", "()I"⟩
abbrev cX2_leastLed : ByteArray := prog_4_method_17_code
def yX2_leastLed : MethodName := ⟨RX2, "leastLed", "()I"⟩
abbrev cX2_live : ByteArray := prog_4_method_18_code
def yX2_live : MethodName := ⟨RX2, "live", "(II)I"⟩
abbrev cX2_nextSeed : ByteArray := prog_4_method_19_code
def yX2_nextSeed : MethodName := ⟨RX2, "nextSeed", "(I)I"⟩
abbrev cX2_drawn : ByteArray := prog_4_method_20_code
def yX2_drawn : MethodName := ⟨RX2, "drawn", "(I)I"⟩
def RX3 : String := "CowsOwed$Kings"
def TX3 : u_T := fun k => match k with
  | _ => ("", "", "", false)
def tyX3 : Nat → FieldType := fun k => match k with
  | _ => .int
abbrev wsX30 : List Cond := u_ws RX3 TX3 0
theorem nmX3 : ∀ a, a < 0 → ∀ b, b < 0 → a ≠ b → (TX3 a).2.1 ≠ (TX3 b).2.1 := by decide +kernel
theorem tyX3_ok : ∀ k, k < 0 → parseFieldDescriptor (TX3 k).2.2.1 = some (tyX3 k) := by decide +kernel
abbrev cX3_init : ByteArray := prog_5_method_1_code
def yX3_init : MethodName := ⟨RX3, "<init>", "()V"⟩
abbrev cX3_number : ByteArray := prog_5_method_2_code
def yX3_number : MethodName := ⟨RX3, "number", "()I"⟩
abbrev cX3_asks : ByteArray := prog_5_method_3_code
def yX3_asks : MethodName := ⟨RX3, "asks", "(I)I"⟩
def RX4 : String := "CowsOwed$Page"
def TX4 : u_T := fun k => match k with
  | 0 => ("CowsOwed$Page", "codes", "[I", true)
  | _ => ("CowsOwed$Page", "size", "I", false)
def tyX4 : Nat → FieldType := fun k => match k with
  | 0 => .array .int
  | _ => .int
abbrev wsX40 : List Cond := u_ws RX4 TX4 2
theorem nmX4 : ∀ a, a < 2 → ∀ b, b < 2 → a ≠ b → (TX4 a).2.1 ≠ (TX4 b).2.1 := by decide +kernel
theorem tyX4_ok : ∀ k, k < 2 → parseFieldDescriptor (TX4 k).2.2.1 = some (tyX4 k) := by decide +kernel
abbrev cX4_init : ByteArray := prog_6_method_1_code
def yX4_init : MethodName := ⟨RX4, "<init>", "()V"⟩
abbrev cX4_put : ByteArray := prog_6_method_2_code
def yX4_put : MethodName := ⟨RX4, "put", "(I)I"⟩
abbrev cX4_firstFault : ByteArray := prog_6_method_3_code
def yX4_firstFault : MethodName := ⟨RX4, "firstFault", "()I"⟩
abbrev cX4_behind : ByteArray := prog_6_method_4_code
def yX4_behind : MethodName := ⟨RX4, "behind", "(III)I"⟩
abbrev cX4_behindMark : ByteArray := prog_6_method_5_code
def yX4_behindMark : MethodName := ⟨RX4, "behindMark", "(II)I"⟩
abbrev cX4_kindOfLetter : ByteArray := prog_6_method_6_code
def yX4_kindOfLetter : MethodName := ⟨RX4, "kindOfLetter", "(I)I"⟩
abbrev cX4_isHills : ByteArray := prog_6_method_7_code
def yX4_isHills : MethodName := ⟨RX4, "isHills", "()Z"⟩
abbrev cX4_clanCount : ByteArray := prog_6_method_8_code
def yX4_clanCount : MethodName := ⟨RX4, "clanCount", "()I"⟩
abbrev cX4_kindOf : ByteArray := prog_6_method_9_code
def yX4_kindOf : MethodName := ⟨RX4, "kindOf", "(I)I"⟩
abbrev cX4_herdOf : ByteArray := prog_6_method_10_code
def yX4_herdOf : MethodName := ⟨RX4, "herdOf", "(I)I"⟩
abbrev cX4_rateDigit : ByteArray := prog_6_method_11_code
def yX4_rateDigit : MethodName := ⟨RX4, "rateDigit", "()I"⟩
def RX5 : String := "CowsOwed$Plans"
def TX5 : u_T := fun k => match k with
  | 0 => ("CowsOwed$Plans", "his", "[I", true)
  | 1 => ("CowsOwed$Plans", "hers", "[I", true)
  | 2 => ("CowsOwed$Plans", "tried", "[I", true)
  | 3 => ("CowsOwed$Plans", "best", "[I", true)
  | 4 => ("CowsOwed$Plans", "size", "I", false)
  | _ => ("CowsOwed$Plans", "leastOwed", "I", false)
def tyX5 : Nat → FieldType := fun k => match k with
  | 0 => .array .int
  | 1 => .array .int
  | 2 => .array .int
  | 3 => .array .int
  | 4 => .int
  | _ => .int
abbrev wsX50 : List Cond := u_ws RX5 TX5 6
theorem nmX5 : ∀ a, a < 6 → ∀ b, b < 6 → a ≠ b → (TX5 a).2.1 ≠ (TX5 b).2.1 := by decide +kernel
theorem tyX5_ok : ∀ k, k < 6 → parseFieldDescriptor (TX5 k).2.2.1 = some (tyX5 k) := by decide +kernel
abbrev cX5_init : ByteArray := prog_7_method_1_code
def yX5_init : MethodName := ⟨RX5, "<init>", "()V"⟩
abbrev cX5_note : ByteArray := prog_7_method_2_code
def yX5_note : MethodName := ⟨RX5, "note", "(II)I"⟩
abbrev cX5_copyFrom : ByteArray := prog_7_method_3_code
def yX5_copyFrom : MethodName := ⟨RX5, "copyFrom", "(LCowsOwed$Plans;)V"⟩
abbrev cX5_findOrder : ByteArray := prog_7_method_4_code
def yX5_findOrder : MethodName := ⟨RX5, "findOrder", "(LCowsOwed$Herds;LCowsOwed$Herds;)V"⟩
abbrev cX5_startOrders : ByteArray := prog_7_method_5_code
def yX5_startOrders : MethodName := ⟨RX5, "startOrders", "()V"⟩
abbrev cX5_marryInOrder : ByteArray := prog_7_method_6_code
def yX5_marryInOrder : MethodName := ⟨RX5, "marryInOrder", "(LCowsOwed$Herds;)V"⟩
abbrev cX5_nextOrder : ByteArray := prog_7_method_7_code
def yX5_nextOrder : MethodName := ⟨RX5, "nextOrder", "()Z"⟩
abbrev cX5_swapTried : ByteArray := prog_7_method_8_code
def yX5_swapTried : MethodName := ⟨RX5, "swapTried", "(II)V"⟩
abbrev cX5_bestAt : ByteArray := prog_7_method_9_code
def yX5_bestAt : MethodName := ⟨RX5, "bestAt", "(I)I"⟩
abbrev cX5_highestRate : ByteArray := prog_7_method_10_code
def yX5_highestRate : MethodName := ⟨RX5, "highestRate", "(LCowsOwed$Herds;LCowsOwed$Herds;)I"⟩
abbrev cX5_owesMore : ByteArray := prog_7_method_11_code
def yX5_owesMore : MethodName := ⟨RX5, "owesMore", "(LCowsOwed$Herds;LCowsOwed$Herds;)Z"⟩
def RX6 : String := "CowsOwed$Poor"
def TX6 : u_T := fun k => match k with
  | _ => ("", "", "", false)
def tyX6 : Nat → FieldType := fun k => match k with
  | _ => .int
abbrev wsX60 : List Cond := u_ws RX6 TX6 0
theorem nmX6 : ∀ a, a < 0 → ∀ b, b < 0 → a ≠ b → (TX6 a).2.1 ≠ (TX6 b).2.1 := by decide +kernel
theorem tyX6_ok : ∀ k, k < 0 → parseFieldDescriptor (TX6 k).2.2.1 = some (tyX6 k) := by decide +kernel
abbrev cX6_init : ByteArray := prog_8_method_1_code
def yX6_init : MethodName := ⟨RX6, "<init>", "()V"⟩
abbrev cX6_number : ByteArray := prog_8_method_2_code
def yX6_number : MethodName := ⟨RX6, "number", "()I"⟩
abbrev cX6_asks : ByteArray := prog_8_method_3_code
def yX6_asks : MethodName := ⟨RX6, "asks", "(I)I"⟩
def RX7 : String := "CowsOwed$Proud"
def TX7 : u_T := fun k => match k with
  | _ => ("", "", "", false)
def tyX7 : Nat → FieldType := fun k => match k with
  | _ => .int
abbrev wsX70 : List Cond := u_ws RX7 TX7 0
theorem nmX7 : ∀ a, a < 0 → ∀ b, b < 0 → a ≠ b → (TX7 a).2.1 ≠ (TX7 b).2.1 := by decide +kernel
theorem tyX7_ok : ∀ k, k < 0 → parseFieldDescriptor (TX7 k).2.2.1 = some (tyX7 k) := by decide +kernel
abbrev cX7_init : ByteArray := prog_9_method_1_code
def yX7_init : MethodName := ⟨RX7, "<init>", "()V"⟩
abbrev cX7_number : ByteArray := prog_9_method_2_code
def yX7_number : MethodName := ⟨RX7, "number", "()I"⟩
abbrev cX7_asks : ByteArray := prog_9_method_3_code
def yX7_asks : MethodName := ⟨RX7, "asks", "(I)I"⟩
def RX8 : String := "CowsOwed$Times"
def TX8 : u_T := fun k => match k with
  | 0 => ("CowsOwed$Times", "herds", "LCowsOwed$Herds;", true)
  | 1 => ("CowsOwed$Times", "weddings", "LCowsOwed$Weddings;", true)
  | 2 => ("CowsOwed$Times", "plans", "LCowsOwed$Plans;", true)
  | 3 => ("CowsOwed$Times", "told", "LCowsOwed$Told;", true)
  | _ => ("CowsOwed$Times", "years", "I", false)
def tyX8 : Nat → FieldType := fun k => match k with
  | 0 => .object "CowsOwed$Herds"
  | 1 => .object "CowsOwed$Weddings"
  | 2 => .object "CowsOwed$Plans"
  | 3 => .object "CowsOwed$Told"
  | _ => .int
abbrev wsX80 : List Cond := u_ws RX8 TX8 5
theorem nmX8 : ∀ a, a < 5 → ∀ b, b < 5 → a ≠ b → (TX8 a).2.1 ≠ (TX8 b).2.1 := by decide +kernel
theorem tyX8_ok : ∀ k, k < 5 → parseFieldDescriptor (TX8 k).2.2.1 = some (tyX8 k) := by decide +kernel
abbrev cX8_init : ByteArray := prog_10_method_1_code
def yX8_init : MethodName := ⟨RX8, "<init>", "([LCowsOwed$Clan;)V"⟩
abbrev cX8_begin : ByteArray := prog_10_method_2_code
def yX8_begin : MethodName := ⟨RX8, "begin", "(II)V"⟩
abbrev cX8_copyFrom : ByteArray := prog_10_method_3_code
def yX8_copyFrom : MethodName := ⟨RX8, "copyFrom", "(LCowsOwed$Times;)V"⟩
def RX9 : String := "CowsOwed$Told"
def TX9 : u_T := fun k => match k with
  | 0 => ("CowsOwed$Told", "rates", "[I", true)
  | 1 => ("CowsOwed$Told", "asked", "[I", true)
  | _ => ("CowsOwed$Told", "size", "I", false)
def tyX9 : Nat → FieldType := fun k => match k with
  | 0 => .array .int
  | 1 => .array .int
  | _ => .int
abbrev wsX90 : List Cond := u_ws RX9 TX9 3
theorem nmX9 : ∀ a, a < 3 → ∀ b, b < 3 → a ≠ b → (TX9 a).2.1 ≠ (TX9 b).2.1 := by decide +kernel
theorem tyX9_ok : ∀ k, k < 3 → parseFieldDescriptor (TX9 k).2.2.1 = some (tyX9 k) := by decide +kernel
abbrev cX9_init : ByteArray := prog_11_method_1_code
def yX9_init : MethodName := ⟨RX9, "<init>", "()V"⟩
abbrev cX9_note : ByteArray := prog_11_method_2_code
def yX9_note : MethodName := ⟨RX9, "note", "(II)I"⟩
abbrev cX9_copyFrom : ByteArray := prog_11_method_3_code
def yX9_copyFrom : MethodName := ⟨RX9, "copyFrom", "(LCowsOwed$Told;)V"⟩
abbrev cX9_kindsLeft : ByteArray := prog_11_method_4_code
def yX9_kindsLeft : MethodName := ⟨RX9, "kindsLeft", "([LCowsOwed$Clan;)I"⟩
abbrev cX9_canBe : ByteArray := prog_11_method_5_code
def yX9_canBe : MethodName := ⟨RX9, "canBe", "(LCowsOwed$Clan;)Z"⟩
abbrev cX9_nextRate : ByteArray := prog_11_method_6_code
def yX9_nextRate : MethodName := ⟨RX9, "nextRate", "([LCowsOwed$Clan;)I"⟩
abbrev cX9_mostLeft : ByteArray := prog_11_method_7_code
def yX9_mostLeft : MethodName := ⟨RX9, "mostLeft", "([LCowsOwed$Clan;II)I"⟩
abbrev cX9_alike : ByteArray := prog_11_method_8_code
def yX9_alike : MethodName := ⟨RX9, "alike", "([LCowsOwed$Clan;III)I"⟩
abbrev cX9_has : ByteArray := prog_11_method_9_code
def yX9_has : MethodName := ⟨RX9, "has", "(II)Z"⟩
def RX10 : String := "CowsOwed$Weddings"
def TX10 : u_T := fun k => match k with
  | 0 => ("CowsOwed$Weddings", "his", "[I", true)
  | 1 => ("CowsOwed$Weddings", "hers", "[I", true)
  | 2 => ("CowsOwed$Weddings", "asked", "[I", true)
  | 3 => ("CowsOwed$Weddings", "undone", "[I", true)
  | _ => ("CowsOwed$Weddings", "size", "I", false)
def tyX10 : Nat → FieldType := fun k => match k with
  | 0 => .array .int
  | 1 => .array .int
  | 2 => .array .int
  | 3 => .array .int
  | _ => .int
abbrev wsX100 : List Cond := u_ws RX10 TX10 5
theorem nmX10 : ∀ a, a < 5 → ∀ b, b < 5 → a ≠ b → (TX10 a).2.1 ≠ (TX10 b).2.1 := by decide +kernel
theorem tyX10_ok : ∀ k, k < 5 → parseFieldDescriptor (TX10 k).2.2.1 = some (tyX10 k) := by decide +kernel
abbrev cX10_init : ByteArray := prog_12_method_1_code
def yX10_init : MethodName := ⟨RX10, "<init>", "()V"⟩
abbrev cX10_knows : ByteArray := prog_12_method_2_code
def yX10_knows : MethodName := ⟨RX10, "knows", "(I)Z"⟩
abbrev cX10_note : ByteArray := prog_12_method_3_code
def yX10_note : MethodName := ⟨RX10, "note", "(III)I"⟩
abbrev cX10_copyFrom : ByteArray := prog_12_method_4_code
def yX10_copyFrom : MethodName := ⟨RX10, "copyFrom", "(LCowsOwed$Weddings;)V"⟩
def RX11 : String := "CowsOwed"
def TX11 : u_T := fun k => match k with
  | 0 => ("CowsOwed", "kinds", "[LCowsOwed$Clan;", true)
  | 1 => ("CowsOwed", "clans", "[LCowsOwed$Clan;", true)
  | 2 => ("CowsOwed", "page", "LCowsOwed$Page;", true)
  | 3 => ("CowsOwed", "now", "LCowsOwed$Times;", true)
  | 4 => ("CowsOwed", "kept", "LCowsOwed$Times;", true)
  | 5 => ("CowsOwed", "trial", "LCowsOwed$Herds;", true)
  | 6 => ("CowsOwed", "hasImage", "Z", false)
  | _ => ("CowsOwed", "timesRead", "I", false)
def tyX11 : Nat → FieldType := fun k => match k with
  | 0 => .array (.object "CowsOwed$Clan")
  | 1 => .array (.object "CowsOwed$Clan")
  | 2 => .object "CowsOwed$Page"
  | 3 => .object "CowsOwed$Times"
  | 4 => .object "CowsOwed$Times"
  | 5 => .object "CowsOwed$Herds"
  | 6 => .boolean
  | _ => .int
abbrev wsX110 : List Cond := u_ws RX11 TX11 8
theorem nmX11 : ∀ a, a < 8 → ∀ b, b < 8 → a ≠ b → (TX11 a).2.1 ≠ (TX11 b).2.1 := by decide +kernel
theorem tyX11_ok : ∀ k, k < 8 → parseFieldDescriptor (TX11 k).2.2.1 = some (tyX11 k) := by decide +kernel
abbrev cX11_init : ByteArray := prog_1_method_1_code
def yX11_init : MethodName := ⟨RX11, "<init>", "()V"⟩
abbrev cX11_letter : ByteArray := prog_1_method_2_code
def yX11_letter : MethodName := ⟨RX11, "letter", "(I)I"⟩
abbrev cX11_blank : ByteArray := prog_1_method_3_code
def yX11_blank : MethodName := ⟨RX11, "blank", "()I"⟩
abbrev cX11_fault : ByteArray := prog_1_method_4_code
def yX11_fault : MethodName := ⟨RX11, "fault", "()I"⟩
abbrev cX11_hills : ByteArray := prog_1_method_5_code
def yX11_hills : MethodName := ⟨RX11, "hills", "()I"⟩
abbrev cX11_clan : ByteArray := prog_1_method_6_code
def yX11_clan : MethodName := ⟨RX11, "clan", "(II)I"⟩
abbrev cX11_as : ByteArray := prog_1_method_7_code
def yX11_as : MethodName := ⟨RX11, "as", "(II)I"⟩
abbrev cX11_rate : ByteArray := prog_1_method_8_code
def yX11_rate : MethodName := ⟨RX11, "rate", "(I)I"⟩
abbrev cX11_wed : ByteArray := prog_1_method_9_code
def yX11_wed : MethodName := ⟨RX11, "wed", "(II)I"⟩
abbrev cX11_wedding : ByteArray := prog_1_method_10_code
def yX11_wedding : MethodName := ⟨RX11, "wedding", "(II)I"⟩
abbrev cX11_divorce : ByteArray := prog_1_method_11_code
def yX11_divorce : MethodName := ⟨RX11, "divorce", "(I)I"⟩
abbrev cX11_year : ByteArray := prog_1_method_12_code
def yX11_year : MethodName := ⟨RX11, "year", "()I"⟩
abbrev cX11_settled : ByteArray := prog_1_method_13_code
def yX11_settled : MethodName := ⟨RX11, "settled", "()I"⟩
abbrev cX11_plan : ByteArray := prog_1_method_14_code
def yX11_plan : MethodName := ⟨RX11, "plan", "(II)I"⟩
abbrev cX11_dream : ByteArray := prog_1_method_15_code
def yX11_dream : MethodName := ⟨RX11, "dream", "()I"⟩
abbrev cX11_order : ByteArray := prog_1_method_16_code
def yX11_order : MethodName := ⟨RX11, "order", "(I)I"⟩
abbrev cX11_high : ByteArray := prog_1_method_17_code
def yX11_high : MethodName := ⟨RX11, "high", "()I"⟩
abbrev cX11_tell : ByteArray := prog_1_method_18_code
def yX11_tell : MethodName := ⟨RX11, "tell", "(II)I"⟩
abbrev cX11_forget : ByteArray := prog_1_method_19_code
def yX11_forget : MethodName := ⟨RX11, "forget", "()I"⟩
abbrev cX11_which : ByteArray := prog_1_method_20_code
def yX11_which : MethodName := ⟨RX11, "which", "()I"⟩
abbrev cX11_ask : ByteArray := prog_1_method_21_code
def yX11_ask : MethodName := ⟨RX11, "ask", "()I"⟩
abbrev cX11_ages : ByteArray := prog_1_method_22_code
def yX11_ages : MethodName := ⟨RX11, "ages", "(III)I"⟩
abbrev cX11_image : ByteArray := prog_1_method_23_code
def yX11_image : MethodName := ⟨RX11, "image", "()I"⟩
abbrev cX11_restore : ByteArray := prog_1_method_24_code
def yX11_restore : MethodName := ⟨RX11, "restore", "()I"⟩
abbrev cX11_count : ByteArray := prog_1_method_25_code
def yX11_count : MethodName := ⟨RX11, "count", "(I)I"⟩
abbrev cX11_digest : ByteArray := prog_1_method_26_code
def yX11_digest : MethodName := ⟨RX11, "digest", "()J"⟩
abbrev cX11_mixedShallBe : ByteArray := prog_1_method_27_code
def yX11_mixedShallBe : MethodName := ⟨RX11, "mixedShallBe", "(J)J"⟩
abbrev cX11_mixed : ByteArray := prog_1_method_28_code
def yX11_mixed : MethodName := ⟨RX11, "mixed", "(JJ)J"⟩
abbrev cX11_hasHills : ByteArray := prog_1_method_29_code
def yX11_hasHills : MethodName := ⟨RX11, "hasHills", "()Z"⟩
abbrev cX11_kindAt : ByteArray := prog_1_method_30_code
def yX11_kindAt : MethodName := ⟨RX11, "kindAt", "(I)LCowsOwed$Clan;"⟩
abbrev cX11_isRate : ByteArray := prog_1_method_31_code
def yX11_isRate : MethodName := ⟨RX11, "isRate", "(I)Z"⟩
abbrev cX11_isOfKind : ByteArray := prog_1_method_32_code
def yX11_isOfKind : MethodName := ⟨RX11, "isOfKind", "(LCowsOwed$Clan;I)Z"⟩
def RX12 : String := "CowsOwedModel"
def TX12 : u_T := fun k => match k with
  | 0 => ("CowsOwedModel", "page", "[I", true)
  | 1 => ("CowsOwedModel", "pageMany", "I", false)
  | 2 => ("CowsOwedModel", "read", "[I", true)
  | 3 => ("CowsOwedModel", "readMany", "I", false)
  | 4 => ("CowsOwedModel", "readRate", "I", false)
  | 5 => ("CowsOwedModel", "state", "I", false)
  | 6 => ("CowsOwedModel", "clans", "I", false)
  | 7 => ("CowsOwedModel", "rateNow", "I", false)
  | 8 => ("CowsOwedModel", "yearsNow", "I", false)
  | 9 => ("CowsOwedModel", "hillsRead", "I", false)
  | 10 => ("CowsOwedModel", "kinds", "[I", true)
  | 11 => ("CowsOwedModel", "herds", "[I", true)
  | 12 => ("CowsOwedModel", "debts", "[I", true)
  | 13 => ("CowsOwedModel", "weddings", "I", false)
  | 14 => ("CowsOwedModel", "rows", "[I", true)
  | 15 => ("CowsOwedModel", "plans", "I", false)
  | 16 => ("CowsOwedModel", "planned", "[I", true)
  | 17 => ("CowsOwedModel", "savedHerds", "[I", true)
  | 18 => ("CowsOwedModel", "savedDebts", "[I", true)
  | 19 => ("CowsOwedModel", "row", "[I", true)
  | 20 => ("CowsOwedModel", "bestRow", "[I", true)
  | 21 => ("CowsOwedModel", "owedBefore", "[I", true)
  | 22 => ("CowsOwedModel", "toldMany", "I", false)
  | 23 => ("CowsOwedModel", "told", "[I", true)
  | 24 => ("CowsOwedModel", "parts", "[I", true)
  | 25 => ("CowsOwedModel", "seedNow", "I", false)
  | 26 => ("CowsOwedModel", "keptHills", "I", false)
  | 27 => ("CowsOwedModel", "keptRate", "I", false)
  | 28 => ("CowsOwedModel", "keptYears", "I", false)
  | 29 => ("CowsOwedModel", "keptWeddings", "I", false)
  | 30 => ("CowsOwedModel", "keptPlans", "I", false)
  | 31 => ("CowsOwedModel", "keptToldMany", "I", false)
  | 32 => ("CowsOwedModel", "keptHerds", "[I", true)
  | 33 => ("CowsOwedModel", "keptDebts", "[I", true)
  | 34 => ("CowsOwedModel", "keptRows", "[I", true)
  | 35 => ("CowsOwedModel", "keptPlanned", "[I", true)
  | 36 => ("CowsOwedModel", "keptTold", "[I", true)
  | _ => ("CowsOwedModel", "hash", "J", false)
def tyX12 : Nat → FieldType := fun k => match k with
  | 0 => .array .int
  | 1 => .int
  | 2 => .array .int
  | 3 => .int
  | 4 => .int
  | 5 => .int
  | 6 => .int
  | 7 => .int
  | 8 => .int
  | 9 => .int
  | 10 => .array .int
  | 11 => .array .int
  | 12 => .array .int
  | 13 => .int
  | 14 => .array .int
  | 15 => .int
  | 16 => .array .int
  | 17 => .array .int
  | 18 => .array .int
  | 19 => .array .int
  | 20 => .array .int
  | 21 => .array .int
  | 22 => .int
  | 23 => .array .int
  | 24 => .array .int
  | 25 => .int
  | 26 => .int
  | 27 => .int
  | 28 => .int
  | 29 => .int
  | 30 => .int
  | 31 => .int
  | 32 => .array .int
  | 33 => .array .int
  | 34 => .array .int
  | 35 => .array .int
  | 36 => .array .int
  | _ => .long
abbrev wsX120 : List Cond := u_ws RX12 TX12 38
theorem nmX12 : ∀ a, a < 38 → ∀ b, b < 38 → a ≠ b → (TX12 a).2.1 ≠ (TX12 b).2.1 := by decide +kernel
theorem tyX12_ok : ∀ k, k < 38 → parseFieldDescriptor (TX12 k).2.2.1 = some (tyX12 k) := by decide +kernel
abbrev cX12_init : ByteArray := prog_14_method_1_code
def yX12_init : MethodName := ⟨RX12, "<init>", "()V"⟩
abbrev cX12_in : ByteArray := prog_14_method_2_code
def yX12_in : MethodName := ⟨RX12, "in", "(JJJ)Z"⟩
abbrev cX12_copy : ByteArray := prog_14_method_3_code
def yX12_copy : MethodName := ⟨RX12, "copy", "([I[I)V"⟩
abbrev cX12_letter : ByteArray := prog_14_method_4_code
def yX12_letter : MethodName := ⟨RX12, "letter", "(I)I"⟩
abbrev cX12_blank : ByteArray := prog_14_method_5_code
def yX12_blank : MethodName := ⟨RX12, "blank", "()I"⟩
abbrev cX12_kindBy : ByteArray := prog_14_method_6_code
def yX12_kindBy : MethodName := ⟨RX12, "kindBy", "(I)I"⟩
abbrev cX12_go : ByteArray := prog_14_method_7_code
def yX12_go : MethodName := ⟨RX12, "go", "(I)Z"⟩
abbrev cX12_faultOf : ByteArray := prog_14_method_8_code
def yX12_faultOf : MethodName := ⟨RX12, "faultOf", "()I"⟩
abbrev cX12_fault : ByteArray := prog_14_method_9_code
def yX12_fault : MethodName := ⟨RX12, "fault", "()I"⟩
abbrev cX12_hills : ByteArray := prog_14_method_10_code
def yX12_hills : MethodName := ⟨RX12, "hills", "()I"⟩
abbrev cX12_lacks : ByteArray := prog_14_method_11_code
def yX12_lacks : MethodName := ⟨RX12, "lacks", "()Z"⟩
abbrev cX12_isClan : ByteArray := prog_14_method_12_code
def yX12_isClan : MethodName := ⟨RX12, "isClan", "(I)Z"⟩
abbrev cX12_areTwo : ByteArray := prog_14_method_13_code
def yX12_areTwo : MethodName := ⟨RX12, "areTwo", "(II)Z"⟩
abbrev cX12_asksBy : ByteArray := prog_14_method_14_code
def yX12_asksBy : MethodName := ⟨RX12, "asksBy", "(II)I"⟩
abbrev cX12_spareOf : ByteArray := prog_14_method_15_code
def yX12_spareOf : MethodName := ⟨RX12, "spareOf", "(I)I"⟩
abbrev cX12_paysNow : ByteArray := prog_14_method_16_code
def yX12_paysNow : MethodName := ⟨RX12, "paysNow", "(III)I"⟩
abbrev cX12_pays : ByteArray := prog_14_method_17_code
def yX12_pays : MethodName := ⟨RX12, "pays", "(III)I"⟩
abbrev cX12_owesOf : ByteArray := prog_14_method_18_code
def yX12_owesOf : MethodName := ⟨RX12, "owesOf", "(I)I"⟩
abbrev cX12_owedTo : ByteArray := prog_14_method_19_code
def yX12_owedTo : MethodName := ⟨RX12, "owedTo", "(I)I"⟩
abbrev cX12_owedAll : ByteArray := prog_14_method_20_code
def yX12_owedAll : MethodName := ⟨RX12, "owedAll", "()I"⟩
abbrev cX12_cowsAll : ByteArray := prog_14_method_21_code
def yX12_cowsAll : MethodName := ⟨RX12, "cowsAll", "()I"⟩
abbrev cX12_clanOf : ByteArray := prog_14_method_22_code
def yX12_clanOf : MethodName := ⟨RX12, "clanOf", "(II)I"⟩
abbrev cX12_clan : ByteArray := prog_14_method_23_code
def yX12_clan : MethodName := ⟨RX12, "clan", "(II)I"⟩
abbrev cX12_as : ByteArray := prog_14_method_24_code
def yX12_as : MethodName := ⟨RX12, "as", "(II)I"⟩
abbrev cX12_rate : ByteArray := prog_14_method_25_code
def yX12_rate : MethodName := ⟨RX12, "rate", "(I)I"⟩
abbrev cX12_marry : ByteArray := prog_14_method_26_code
def yX12_marry : MethodName := ⟨RX12, "marry", "(III)I"⟩
abbrev cX12_wed : ByteArray := prog_14_method_27_code
def yX12_wed : MethodName := ⟨RX12, "wed", "(II)I"⟩
abbrev cX12_wedding : ByteArray := prog_14_method_28_code
def yX12_wedding : MethodName := ⟨RX12, "wedding", "(II)I"⟩
abbrev cX12_divorce : ByteArray := prog_14_method_29_code
def yX12_divorce : MethodName := ⟨RX12, "divorce", "(I)I"⟩
abbrev cX12_passYear : ByteArray := prog_14_method_30_code
def yX12_passYear : MethodName := ⟨RX12, "passYear", "()V"⟩
abbrev cX12_year : ByteArray := prog_14_method_31_code
def yX12_year : MethodName := ⟨RX12, "year", "()I"⟩
abbrev cX12_settledOf : ByteArray := prog_14_method_32_code
def yX12_settledOf : MethodName := ⟨RX12, "settledOf", "()I"⟩
abbrev cX12_settled : ByteArray := prog_14_method_33_code
def yX12_settled : MethodName := ⟨RX12, "settled", "()I"⟩
abbrev cX12_layAside : ByteArray := prog_14_method_34_code
def yX12_layAside : MethodName := ⟨RX12, "layAside", "()V"⟩
abbrev cX12_layBack : ByteArray := prog_14_method_35_code
def yX12_layBack : MethodName := ⟨RX12, "layBack", "()V"⟩
abbrev cX12_plan : ByteArray := prog_14_method_36_code
def yX12_plan : MethodName := ⟨RX12, "plan", "(II)I"⟩
abbrev cX12_dream : ByteArray := prog_14_method_37_code
def yX12_dream : MethodName := ⟨RX12, "dream", "()I"⟩
abbrev cX12_isOrder : ByteArray := prog_14_method_38_code
def yX12_isOrder : MethodName := ⟨RX12, "isOrder", "(I)Z"⟩
abbrev cX12_layOrder : ByteArray := prog_14_method_39_code
def yX12_layOrder : MethodName := ⟨RX12, "layOrder", "()I"⟩
abbrev cX12_orderOf : ByteArray := prog_14_method_40_code
def yX12_orderOf : MethodName := ⟨RX12, "orderOf", "(I)I"⟩
abbrev cX12_order : ByteArray := prog_14_method_41_code
def yX12_order : MethodName := ⟨RX12, "order", "(I)I"⟩
abbrev cX12_highOf : ByteArray := prog_14_method_42_code
def yX12_highOf : MethodName := ⟨RX12, "highOf", "()I"⟩
abbrev cX12_high : ByteArray := prog_14_method_43_code
def yX12_high : MethodName := ⟨RX12, "high", "()I"⟩
abbrev cX12_tell : ByteArray := prog_14_method_44_code
def yX12_tell : MethodName := ⟨RX12, "tell", "(II)I"⟩
abbrev cX12_forget : ByteArray := prog_14_method_45_code
def yX12_forget : MethodName := ⟨RX12, "forget", "()I"⟩
abbrev cX12_whichOf : ByteArray := prog_14_method_46_code
def yX12_whichOf : MethodName := ⟨RX12, "whichOf", "()I"⟩
abbrev cX12_which : ByteArray := prog_14_method_47_code
def yX12_which : MethodName := ⟨RX12, "which", "()I"⟩
abbrev cX12_askOf : ByteArray := prog_14_method_48_code
def yX12_askOf : MethodName := ⟨RX12, "askOf", "()I"⟩
abbrev cX12_ask : ByteArray := prog_14_method_49_code
def yX12_ask : MethodName := ⟨RX12, "ask", "()I"⟩
abbrev cX12_draw : ByteArray := prog_14_method_50_code
def yX12_draw : MethodName := ⟨RX12, "draw", "(I)I"⟩
abbrev cX12_ages : ByteArray := prog_14_method_51_code
def yX12_ages : MethodName := ⟨RX12, "ages", "(III)I"⟩
abbrev cX12_image : ByteArray := prog_14_method_52_code
def yX12_image : MethodName := ⟨RX12, "image", "()I"⟩
abbrev cX12_restore : ByteArray := prog_14_method_53_code
def yX12_restore : MethodName := ⟨RX12, "restore", "()I"⟩
abbrev cX12_countOf : ByteArray := prog_14_method_54_code
def yX12_countOf : MethodName := ⟨RX12, "countOf", "(I)I"⟩
abbrev cX12_count : ByteArray := prog_14_method_55_code
def yX12_count : MethodName := ⟨RX12, "count", "(I)I"⟩
abbrev cX12_say : ByteArray := prog_14_method_56_code
def yX12_say : MethodName := ⟨RX12, "say", "(J)V"⟩
abbrev cX12_sayClan : ByteArray := prog_14_method_57_code
def yX12_sayClan : MethodName := ⟨RX12, "sayClan", "(I)V"⟩
abbrev cX12_digest : ByteArray := prog_14_method_58_code
def yX12_digest : MethodName := ⟨RX12, "digest", "()J"⟩
def RJ11 : String := "java/lang/Character"
def TJ11 : u_T := fun k => match k with
  | _ => ("", "", "", false)
def tyJ11 : Nat → FieldType := fun k => match k with
  | _ => .int
abbrev wsJ110 : List Cond := u_ws RJ11 TJ11 0
theorem nmJ11 : ∀ a, a < 0 → ∀ b, b < 0 → a ≠ b → (TJ11 a).2.1 ≠ (TJ11 b).2.1 := by decide +kernel
theorem tyJ11_ok : ∀ k, k < 0 → parseFieldDescriptor (TJ11 k).2.2.1 = some (tyJ11 k) := by decide +kernel
abbrev cJ11_isValidCodePoint_9a6ad : ByteArray := prog_15_method_11_code
def yJ11_isValidCodePoint_9a6ad : MethodName := ⟨RJ11, "isValidCodePoint", "(I)Z"⟩
abbrev cJ11_highSurrogate_5068e : ByteArray := prog_15_method_28_code
def yJ11_highSurrogate_5068e : MethodName := ⟨RJ11, "highSurrogate", "(I)C"⟩
abbrev cJ11_lowSurrogate_5068e : ByteArray := prog_15_method_29_code
def yJ11_lowSurrogate_5068e : MethodName := ⟨RJ11, "lowSurrogate", "(I)C"⟩
def RJ9 : String := "java/lang/Math"
def TJ9 : u_T := fun k => match k with
  | _ => ("", "", "", false)
def tyJ9 : Nat → FieldType := fun k => match k with
  | _ => .int
abbrev wsJ90 : List Cond := u_ws RJ9 TJ9 0
theorem nmJ9 : ∀ a, a < 0 → ∀ b, b < 0 → a ≠ b → (TJ9 a).2.1 ≠ (TJ9 b).2.1 := by decide +kernel
theorem tyJ9_ok : ∀ k, k < 0 → parseFieldDescriptor (TJ9 k).2.2.1 = some (tyJ9 k) := by decide +kernel
abbrev cJ9_max_7cf53 : ByteArray := prog_16_method_65_code
def yJ9_max_7cf53 : MethodName := ⟨RJ9, "max", "(II)I"⟩
abbrev cJ9_min_7cf53 : ByteArray := prog_16_method_69_code
def yJ9_min_7cf53 : MethodName := ⟨RJ9, "min", "(II)I"⟩
def RJ0 : String := "java/lang/String"
def TJ0 : u_T := fun k => match k with
  | _ => ("", "", "", false)
def tyJ0 : Nat → FieldType := fun k => match k with
  | _ => .int
abbrev wsJ00 : List Cond := u_ws RJ0 TJ0 0
theorem nmJ0 : ∀ a, a < 0 → ∀ b, b < 0 → a ≠ b → (TJ0 a).2.1 ≠ (TJ0 b).2.1 := by decide +kernel
theorem tyJ0_ok : ∀ k, k < 0 → parseFieldDescriptor (TJ0 k).2.2.1 = some (tyJ0 k) := by decide +kernel
abbrev cJ0_length_8abf5 : ByteArray := prog_17_method_54_code
def yJ0_length_8abf5 : MethodName := ⟨RJ0, "length", "()I"⟩
abbrev cJ0_indexOf_0f7a4 : ByteArray := prog_17_method_79_code
def yJ0_indexOf_0f7a4 : MethodName := ⟨RJ0, "indexOf", "(I)I"⟩
abbrev cJ0_indexOf_7cf53 : ByteArray := prog_17_method_80_code
def yJ0_indexOf_7cf53 : MethodName := ⟨RJ0, "indexOf", "(II)I"⟩
abbrev cJ0_coder_7d493 : ByteArray := prog_17_method_152_code
def yJ0_coder_7d493 : MethodName := ⟨RJ0, "coder", "()B"⟩
abbrev cJ0_isLatin1_aae02 : ByteArray := prog_17_method_154_code
def yJ0_isLatin1_aae02 : MethodName := ⟨RJ0, "isLatin1", "()Z"⟩
abbrev cJ0_checkBoundsBeginEnd_23922 : ByteArray := prog_17_method_158_code
def yJ0_checkBoundsBeginEnd_23922 : MethodName := ⟨RJ0, "checkBoundsBeginEnd", "(III)V"⟩
def RJ1 : String := "java/lang/StringLatin1"
def TJ1 : u_T := fun k => match k with
  | _ => ("", "", "", false)
def tyJ1 : Nat → FieldType := fun k => match k with
  | _ => .int
abbrev wsJ10 : List Cond := u_ws RJ1 TJ1 0
theorem nmJ1 : ∀ a, a < 0 → ∀ b, b < 0 → a ≠ b → (TJ1 a).2.1 ≠ (TJ1 b).2.1 := by decide +kernel
theorem tyJ1_ok : ∀ k, k < 0 → parseFieldDescriptor (TJ1 k).2.2.1 = some (tyJ1 k) := by decide +kernel
abbrev cJ1_canEncode_9a6ad : ByteArray := prog_18_method_4_code
def yJ1_canEncode_9a6ad : MethodName := ⟨RJ1, "canEncode", "(I)Z"⟩
abbrev cJ1_indexOf_4cfef : ByteArray := prog_18_method_22_code
def yJ1_indexOf_4cfef : MethodName := ⟨RJ1, "indexOf", "([BIII)I"⟩
abbrev cJ1_indexOfChar_4cfef : ByteArray := prog_18_method_23_code
def yJ1_indexOfChar_4cfef : MethodName := ⟨RJ1, "indexOfChar", "([BIII)I"⟩
def RJ2 : String := "java/lang/StringUTF16"
def TJ2 : u_T := fun k => match k with
  | _ => ("", "", "", false)
def tyJ2 : Nat → FieldType := fun k => match k with
  | _ => .int
abbrev wsJ20 : List Cond := u_ws RJ2 TJ2 0
theorem nmJ2 : ∀ a, a < 0 → ∀ b, b < 0 → a ≠ b → (TJ2 a).2.1 ≠ (TJ2 b).2.1 := by decide +kernel
theorem tyJ2_ok : ∀ k, k < 0 → parseFieldDescriptor (TJ2 k).2.2.1 = some (tyJ2 k) := by decide +kernel
abbrev cJ2_getChar_3b067 : ByteArray := prog_19_method_5_code
def yJ2_getChar_3b067 : MethodName := ⟨RJ2, "getChar", "([BI)C"⟩
abbrev cJ2_length_9d52b : ByteArray := prog_19_method_6_code
def yJ2_length_9d52b : MethodName := ⟨RJ2, "length", "([B)I"⟩
abbrev cJ2_indexOf_4cfef : ByteArray := prog_19_method_40_code
def yJ2_indexOf_4cfef : MethodName := ⟨RJ2, "indexOf", "([BIII)I"⟩
abbrev cJ2_indexOfChar_4cfef : ByteArray := prog_19_method_47_code
def yJ2_indexOfChar_4cfef : MethodName := ⟨RJ2, "indexOfChar", "([BIII)I"⟩
abbrev cJ2_indexOfCharUnsafe_4cfef : ByteArray := prog_19_method_48_code
def yJ2_indexOfCharUnsafe_4cfef : MethodName := ⟨RJ2, "indexOfCharUnsafe", "([BIII)I"⟩
abbrev cJ2_indexOfSupplementary_4cfef : ByteArray := prog_19_method_49_code
def yJ2_indexOfSupplementary_4cfef : MethodName := ⟨RJ2, "indexOfSupplementary", "([BIII)I"⟩
abbrev cJ2_checkBoundsBeginEnd_d044e : ByteArray := prog_19_method_93_code
def yJ2_checkBoundsBeginEnd_d044e : MethodName := ⟨RJ2, "checkBoundsBeginEnd", "(II[B)V"⟩
def RJ10 : String := "java/lang/System"
def TJ10 : u_T := fun k => match k with
  | _ => ("", "", "", false)
def tyJ10 : Nat → FieldType := fun k => match k with
  | _ => .int
abbrev wsJ100 : List Cond := u_ws RJ10 TJ10 0
theorem nmJ10 : ∀ a, a < 0 → ∀ b, b < 0 → a ≠ b → (TJ10 a).2.1 ≠ (TJ10 b).2.1 := by decide +kernel
theorem tyJ10_ok : ∀ k, k < 0 → parseFieldDescriptor (TJ10 k).2.2.1 = some (tyJ10 k) := by decide +kernel
def RJ3 : String := "jdk/internal/util/Preconditions"
def TJ3 : u_T := fun k => match k with
  | _ => ("", "", "", false)
def tyJ3 : Nat → FieldType := fun k => match k with
  | _ => .int
abbrev wsJ30 : List Cond := u_ws RJ3 TJ3 0
theorem nmJ3 : ∀ a, a < 0 → ∀ b, b < 0 → a ≠ b → (TJ3 a).2.1 ≠ (TJ3 b).2.1 := by decide +kernel
theorem tyJ3_ok : ∀ k, k < 0 → parseFieldDescriptor (TJ3 k).2.2.1 = some (tyJ3 k) := by decide +kernel
abbrev cJ3_checkFromToIndex_8c36e : ByteArray := prog_21_method_12_code
def yJ3_checkFromToIndex_8c36e : MethodName := ⟨RJ3, "checkFromToIndex", "(IIILjava/util/function/BiFunction;)I"⟩
def RL : String := "CowsOwedLaw"
abbrev cL_law : ByteArray := code
def yL_law : MethodName := ⟨RL, "law", "([I)Z"⟩
def wsX1_init : List Cond := .code yX1_init cX1_init 1 none :: ([.methodLink RX1 3 objectInit, .instanceMethod objectInit, .code objectInit ⟨#[0xb1]⟩ 1 none])
def wsX0_init : List Cond := .code yX0_init cX0_init 1 none :: ([.instanceMethod yX1_init, .initialized RX1, .code yX1_init cX1_init 1 none, .methodLink RX1 3 objectInit, .instanceMethod objectInit, .code objectInit ⟨#[0xb1]⟩ 1 none])
def wsX0_number : List Cond := .code yX0_number cX0_number 1 (some .int) :: ([])
def wsX0_spares : List Cond := .code yX0_spares cX0_spares 2 (some .int) :: ([])
def wsX1_number : List Cond := .code yX1_number cX1_number 1 (some .int) :: ([])
def wsX1_asks : List Cond := .code yX1_asks cX1_asks 2 (some .int) :: ([])
def wsX1_spares : List Cond := .code yX1_spares cX1_spares 2 (some .int) :: ([])
def wsX2_init : List Cond := .code yX2_init cX2_init 2 none :: ([.methodLink RX2 3 objectInit, .instanceMethod objectInit, .code objectInit ⟨#[0xb1]⟩ 1 none, .arrayClass .int, .fieldLink RX2 9 "CowsOwed$Herds" "cows" "[I", .classLink RX2 15 "[[I", .fieldLink RX2 17 "CowsOwed$Herds" "debts" "[[I", .fieldLink RX2 20 "CowsOwed$Herds" "size" "I", .fieldLink RX2 24 "CowsOwed$Herds" "price" "I", .fieldLink RX2 27 "CowsOwed$Herds" "clans" "[LCowsOwed$Clan;"] ++ wsX20)
def wsX2_begin : List Cond := .code yX2_begin cX2_begin 5 none :: ([.fieldLink RX2 20 "CowsOwed$Herds" "size" "I", .fieldLink RX2 24 "CowsOwed$Herds" "price" "I", .fieldLink RX2 9 "CowsOwed$Herds" "cows" "[I", .fieldLink RX2 17 "CowsOwed$Herds" "debts" "[[I"] ++ wsX20)
def wsX2_copyFrom : List Cond := .code yX2_copyFrom cX2_copyFrom 4 none :: ([.fieldLink RX2 20 "CowsOwed$Herds" "size" "I", .fieldLink RX2 24 "CowsOwed$Herds" "price" "I", .fieldLink RX2 9 "CowsOwed$Herds" "cows" "[I", .fieldLink RX2 17 "CowsOwed$Herds" "debts" "[[I"] ++ wsX20)
def wsX2_knows : List Cond := .code yX2_knows cX2_knows 2 (some .boolean) :: ([.fieldLink RX2 20 "CowsOwed$Herds" "size" "I"] ++ wsX20)
def wsX2_knowsCouple : List Cond := .code yX2_knowsCouple cX2_knowsCouple 3 (some .boolean) :: ([.methodLink RX2 31 yX2_knows, .instanceMethod yX2_knows, .selects RX2 yX2_knows yX2_knows, .initialized RX2, .code yX2_knows cX2_knows 2 (some .boolean), .fieldLink RX2 20 "CowsOwed$Herds" "size" "I"] ++ wsX20)
def wsX7_asks : List Cond := .code yX7_asks cX7_asks 2 (some .int) :: ([])
def wsX3_asks : List Cond := .code yX3_asks cX3_asks 2 (some .int) :: ([.methodLink RX3 9 yX7_asks, .sameMethod "CowsOwed$Proud" "CowsOwed$Proud" "asks" "(I)I", .superclass RX3 RX7, .instanceMethod yX7_asks, .initialized RX7, .code yX7_asks cX7_asks 2 (some .int)])
def wsX6_asks : List Cond := .code yX6_asks cX6_asks 2 (some .int) :: ([.methodLink RX6 9 Lib.Math.max.name, .static Lib.Math.max.name, .initialized "java/lang/Math", .code Lib.Math.max.name Lib.Math.max.code 2 (some .int)])
def wsX2_askedBy_r1 : List Cond := [Cond.fieldLink RX2 27 "CowsOwed$Herds" "clans" "[LCowsOwed$Clan;", Cond.fieldLink RX2 24 "CowsOwed$Herds" "price" "I", Cond.methodLink RX2 35 ⟨"CowsOwed$Clan", "asks", "(I)I"⟩, Cond.sameMethod "CowsOwed$Clan" "CowsOwed$Clan" "asks" "(I)I", Cond.selects RX0 ⟨"CowsOwed$Clan", "asks", "(I)I"⟩ yX1_asks, Cond.instanceMethod yX1_asks, Cond.initialized RX1, Cond.code yX1_asks cX1_asks 2 (some .int), Cond.methodLink RX2 35 yX1_asks, Cond.selects RX1 yX1_asks yX1_asks, Cond.instanceMethod ⟨"CowsOwed$Clan", "asks", "(I)I"⟩, Cond.selects RX3 ⟨"CowsOwed$Clan", "asks", "(I)I"⟩ yX3_asks, Cond.instanceMethod yX3_asks, Cond.initialized RX3, Cond.code yX3_asks cX3_asks 2 (some .int), Cond.methodLink RX3 9 yX7_asks, Cond.sameMethod "CowsOwed$Proud" "CowsOwed$Proud" "asks" "(I)I", Cond.superclass RX3 RX7, Cond.instanceMethod yX7_asks, Cond.initialized RX7, Cond.code yX7_asks cX7_asks 2 (some .int), Cond.selects RX6 ⟨"CowsOwed$Clan", "asks", "(I)I"⟩ yX6_asks, Cond.instanceMethod yX6_asks, Cond.initialized RX6]
def wsX2_askedBy_r2 : List Cond := [Cond.code yX6_asks cX6_asks 2 (some .int), Cond.methodLink RX6 9 Lib.Math.max.name, Cond.static Lib.Math.max.name, Cond.initialized "java/lang/Math", Cond.code Lib.Math.max.name Lib.Math.max.code 2 (some .int), Cond.selects RX7 ⟨"CowsOwed$Clan", "asks", "(I)I"⟩ yX7_asks]
def wsX2_askedBy : List Cond := .code yX2_askedBy cX2_askedBy 2 (some .int) :: ((wsX2_askedBy_r1 ++ wsX2_askedBy_r2) ++ wsX20)
def wsX2_sparedBy : List Cond := .code yX2_sparedBy cX2_sparedBy 2 (some .int) :: ([.fieldLink RX2 27 "CowsOwed$Herds" "clans" "[LCowsOwed$Clan;", .fieldLink RX2 9 "CowsOwed$Herds" "cows" "[I", .methodLink RX2 41 ⟨"CowsOwed$Clan", "spares", "(I)I"⟩, .sameMethod "CowsOwed$Clan" "CowsOwed$Clan" "spares" "(I)I", .instanceMethod ⟨"CowsOwed$Clan", "spares", "(I)I"⟩, .selects RX0 ⟨"CowsOwed$Clan", "spares", "(I)I"⟩ yX0_spares, .instanceMethod yX0_spares, .initialized RX0, .code yX0_spares cX0_spares 2 (some .int), .code yX1_spares cX1_spares 2 (some .int), .methodLink RX2 41 yX1_spares, .instanceMethod yX1_spares, .selects RX1 yX1_spares yX1_spares, .initialized RX1, .selects RX3 ⟨"CowsOwed$Clan", "spares", "(I)I"⟩ yX1_spares, .selects RX6 ⟨"CowsOwed$Clan", "spares", "(I)I"⟩ yX1_spares, .selects RX7 ⟨"CowsOwed$Clan", "spares", "(I)I"⟩ yX1_spares] ++ wsX20)
def wsX2_pay : List Cond := .code yX2_pay cX2_pay 5 (some .int) :: ([.fieldLink RX2 27 "CowsOwed$Herds" "clans" "[LCowsOwed$Clan;", .fieldLink RX2 9 "CowsOwed$Herds" "cows" "[I", .methodLink RX2 48 Lib.Math.min.name, .static Lib.Math.min.name, .initialized "java/lang/Math", .code Lib.Math.min.name Lib.Math.min.code 2 (some .int), .fieldLink RX2 17 "CowsOwed$Herds" "debts" "[[I", .methodLink RX2 41 ⟨"CowsOwed$Clan", "spares", "(I)I"⟩, .sameMethod "CowsOwed$Clan" "CowsOwed$Clan" "spares" "(I)I", .instanceMethod ⟨"CowsOwed$Clan", "spares", "(I)I"⟩, .selects RX0 ⟨"CowsOwed$Clan", "spares", "(I)I"⟩ yX0_spares, .instanceMethod yX0_spares, .initialized RX0, .code yX0_spares cX0_spares 2 (some .int), .code yX1_spares cX1_spares 2 (some .int), .methodLink RX2 41 yX1_spares, .instanceMethod yX1_spares, .selects RX1 yX1_spares yX1_spares, .initialized RX1, .selects RX3 ⟨"CowsOwed$Clan", "spares", "(I)I"⟩ yX1_spares, .selects RX6 ⟨"CowsOwed$Clan", "spares", "(I)I"⟩ yX1_spares, .selects RX7 ⟨"CowsOwed$Clan", "spares", "(I)I"⟩ yX1_spares] ++ wsX20)
def wsX2_marry_r1 : List Cond := [Cond.fieldLink RX2 27 "CowsOwed$Herds" "clans" "[LCowsOwed$Clan;", Cond.fieldLink RX2 24 "CowsOwed$Herds" "price" "I", Cond.methodLink RX2 35 ⟨"CowsOwed$Clan", "asks", "(I)I"⟩, Cond.sameMethod "CowsOwed$Clan" "CowsOwed$Clan" "asks" "(I)I", Cond.selects RX0 ⟨"CowsOwed$Clan", "asks", "(I)I"⟩ yX1_asks, Cond.instanceMethod yX1_asks, Cond.initialized RX1, Cond.code yX1_asks cX1_asks 2 (some .int), Cond.methodLink RX2 35 yX1_asks, Cond.selects RX1 yX1_asks yX1_asks, Cond.instanceMethod ⟨"CowsOwed$Clan", "asks", "(I)I"⟩, Cond.selects RX3 ⟨"CowsOwed$Clan", "asks", "(I)I"⟩ yX3_asks, Cond.instanceMethod yX3_asks, Cond.initialized RX3, Cond.code yX3_asks cX3_asks 2 (some .int), Cond.methodLink RX3 9 yX7_asks, Cond.sameMethod "CowsOwed$Proud" "CowsOwed$Proud" "asks" "(I)I", Cond.superclass RX3 RX7, Cond.instanceMethod yX7_asks, Cond.initialized RX7, Cond.code yX7_asks cX7_asks 2 (some .int), Cond.selects RX6 ⟨"CowsOwed$Clan", "asks", "(I)I"⟩ yX6_asks, Cond.instanceMethod yX6_asks, Cond.initialized RX6]
def wsX2_marry_r2 : List Cond := [Cond.code yX6_asks cX6_asks 2 (some .int), Cond.methodLink RX6 9 Lib.Math.max.name, Cond.static Lib.Math.max.name, Cond.initialized "java/lang/Math", Cond.code Lib.Math.max.name Lib.Math.max.code 2 (some .int), Cond.selects RX7 ⟨"CowsOwed$Clan", "asks", "(I)I"⟩ yX7_asks, Cond.methodLink RX2 44 yX2_pay, Cond.instanceMethod yX2_pay, Cond.selects RX2 yX2_pay yX2_pay, Cond.initialized RX2, Cond.code yX2_pay cX2_pay 5 (some .int), Cond.fieldLink RX2 9 "CowsOwed$Herds" "cows" "[I", Cond.methodLink RX2 48 Lib.Math.min.name, Cond.static Lib.Math.min.name, Cond.code Lib.Math.min.name Lib.Math.min.code 2 (some .int), Cond.fieldLink RX2 17 "CowsOwed$Herds" "debts" "[[I", Cond.methodLink RX2 41 ⟨"CowsOwed$Clan", "spares", "(I)I"⟩, Cond.sameMethod "CowsOwed$Clan" "CowsOwed$Clan" "spares" "(I)I", Cond.instanceMethod ⟨"CowsOwed$Clan", "spares", "(I)I"⟩, Cond.selects RX0 ⟨"CowsOwed$Clan", "spares", "(I)I"⟩ yX0_spares, Cond.instanceMethod yX0_spares, Cond.initialized RX0, Cond.code yX0_spares cX0_spares 2 (some .int), Cond.code yX1_spares cX1_spares 2 (some .int)]
def wsX2_marry_r3 : List Cond := [Cond.methodLink RX2 41 yX1_spares, Cond.instanceMethod yX1_spares, Cond.selects RX1 yX1_spares yX1_spares, Cond.selects RX3 ⟨"CowsOwed$Clan", "spares", "(I)I"⟩ yX1_spares, Cond.selects RX6 ⟨"CowsOwed$Clan", "spares", "(I)I"⟩ yX1_spares, Cond.selects RX7 ⟨"CowsOwed$Clan", "spares", "(I)I"⟩ yX1_spares]
def wsX2_marry : List Cond := .code yX2_marry cX2_marry 4 (some .int) :: ((wsX2_marry_r1 ++ (wsX2_marry_r2 ++ wsX2_marry_r3)) ++ wsX20)
def wsX2_grown : List Cond := .code yX2_grown cX2_grown 1 (some .int) :: ([.methodLink RX2 48 Lib.Math.min.name, .static Lib.Math.min.name, .initialized "java/lang/Math", .code Lib.Math.min.name Lib.Math.min.code 2 (some .int), .methodLink RX2 61 Lib.Math.max.name, .static Lib.Math.max.name, .code Lib.Math.max.name Lib.Math.max.code 2 (some .int)])
def wsX2_payDebt_r1 : List Cond := [Cond.fieldLink RX2 17 "CowsOwed$Herds" "debts" "[[I", Cond.methodLink RX2 44 yX2_pay, Cond.instanceMethod yX2_pay, Cond.selects RX2 yX2_pay yX2_pay, Cond.initialized RX2, Cond.code yX2_pay cX2_pay 5 (some .int), Cond.fieldLink RX2 27 "CowsOwed$Herds" "clans" "[LCowsOwed$Clan;", Cond.fieldLink RX2 9 "CowsOwed$Herds" "cows" "[I", Cond.methodLink RX2 48 Lib.Math.min.name, Cond.static Lib.Math.min.name, Cond.initialized "java/lang/Math", Cond.code Lib.Math.min.name Lib.Math.min.code 2 (some .int), Cond.methodLink RX2 41 ⟨"CowsOwed$Clan", "spares", "(I)I"⟩, Cond.sameMethod "CowsOwed$Clan" "CowsOwed$Clan" "spares" "(I)I", Cond.instanceMethod ⟨"CowsOwed$Clan", "spares", "(I)I"⟩, Cond.selects RX0 ⟨"CowsOwed$Clan", "spares", "(I)I"⟩ yX0_spares, Cond.instanceMethod yX0_spares, Cond.initialized RX0, Cond.code yX0_spares cX0_spares 2 (some .int), Cond.code yX1_spares cX1_spares 2 (some .int), Cond.methodLink RX2 41 yX1_spares, Cond.instanceMethod yX1_spares, Cond.selects RX1 yX1_spares yX1_spares, Cond.initialized RX1]
def wsX2_payDebt_r2 : List Cond := [Cond.selects RX3 ⟨"CowsOwed$Clan", "spares", "(I)I"⟩ yX1_spares, Cond.selects RX6 ⟨"CowsOwed$Clan", "spares", "(I)I"⟩ yX1_spares, Cond.selects RX7 ⟨"CowsOwed$Clan", "spares", "(I)I"⟩ yX1_spares]
def wsX2_payDebt : List Cond := .code yX2_payDebt cX2_payDebt 4 none :: ((wsX2_payDebt_r1 ++ wsX2_payDebt_r2) ++ wsX20)
def wsX2_passYear_r1 : List Cond := [Cond.fieldLink RX2 20 "CowsOwed$Herds" "size" "I", Cond.fieldLink RX2 9 "CowsOwed$Herds" "cows" "[I", Cond.methodLink RX2 54 yX2_grown, Cond.static yX2_grown, Cond.initialized RX2, Cond.code yX2_grown cX2_grown 1 (some .int), Cond.methodLink RX2 48 Lib.Math.min.name, Cond.static Lib.Math.min.name, Cond.initialized "java/lang/Math", Cond.code Lib.Math.min.name Lib.Math.min.code 2 (some .int), Cond.methodLink RX2 61 Lib.Math.max.name, Cond.static Lib.Math.max.name, Cond.code Lib.Math.max.name Lib.Math.max.code 2 (some .int), Cond.methodLink RX2 57 yX2_payDebt, Cond.instanceMethod yX2_payDebt, Cond.selects RX2 yX2_payDebt yX2_payDebt, Cond.code yX2_payDebt cX2_payDebt 4 none, Cond.fieldLink RX2 17 "CowsOwed$Herds" "debts" "[[I", Cond.methodLink RX2 44 yX2_pay, Cond.instanceMethod yX2_pay, Cond.selects RX2 yX2_pay yX2_pay, Cond.code yX2_pay cX2_pay 5 (some .int), Cond.fieldLink RX2 27 "CowsOwed$Herds" "clans" "[LCowsOwed$Clan;", Cond.methodLink RX2 41 ⟨"CowsOwed$Clan", "spares", "(I)I"⟩]
def wsX2_passYear_r2 : List Cond := [Cond.sameMethod "CowsOwed$Clan" "CowsOwed$Clan" "spares" "(I)I", Cond.instanceMethod ⟨"CowsOwed$Clan", "spares", "(I)I"⟩, Cond.selects RX0 ⟨"CowsOwed$Clan", "spares", "(I)I"⟩ yX0_spares, Cond.instanceMethod yX0_spares, Cond.initialized RX0, Cond.code yX0_spares cX0_spares 2 (some .int), Cond.code yX1_spares cX1_spares 2 (some .int), Cond.methodLink RX2 41 yX1_spares, Cond.instanceMethod yX1_spares, Cond.selects RX1 yX1_spares yX1_spares, Cond.initialized RX1, Cond.selects RX3 ⟨"CowsOwed$Clan", "spares", "(I)I"⟩ yX1_spares, Cond.selects RX6 ⟨"CowsOwed$Clan", "spares", "(I)I"⟩ yX1_spares, Cond.selects RX7 ⟨"CowsOwed$Clan", "spares", "(I)I"⟩ yX1_spares]
def wsX2_passYear : List Cond := .code yX2_passYear cX2_passYear 3 none :: ((wsX2_passYear_r1 ++ wsX2_passYear_r2) ++ wsX20)
def wsX2_owedBy : List Cond := .code yX2_owedBy cX2_owedBy 4 (some .int) :: ([.fieldLink RX2 20 "CowsOwed$Herds" "size" "I", .fieldLink RX2 17 "CowsOwed$Herds" "debts" "[[I"] ++ wsX20)
def wsX2_owedTo : List Cond := .code yX2_owedTo cX2_owedTo 4 (some .int) :: ([.fieldLink RX2 20 "CowsOwed$Herds" "size" "I", .fieldLink RX2 17 "CowsOwed$Herds" "debts" "[[I"] ++ wsX20)
def wsX2_allOwed : List Cond := .code yX2_allOwed cX2_allOwed 3 (some .int) :: ([.fieldLink RX2 20 "CowsOwed$Herds" "size" "I", .methodLink RX2 64 yX2_owedBy, .instanceMethod yX2_owedBy, .selects RX2 yX2_owedBy yX2_owedBy, .initialized RX2, .code yX2_owedBy cX2_owedBy 4 (some .int), .fieldLink RX2 17 "CowsOwed$Herds" "debts" "[[I"] ++ wsX20)
def wsX2_allCows : List Cond := .code yX2_allCows cX2_allCows 3 (some .int) :: ([.fieldLink RX2 20 "CowsOwed$Herds" "size" "I", .fieldLink RX2 9 "CowsOwed$Herds" "cows" "[I"] ++ wsX20)
def wsX2_leastLed : List Cond := .code yX2_leastLed cX2_leastLed 3 (some .int) :: ([.fieldLink RX2 20 "CowsOwed$Herds" "size" "I", .methodLink RX2 61 Lib.Math.max.name, .static Lib.Math.max.name, .initialized "java/lang/Math", .code Lib.Math.max.name Lib.Math.max.code 2 (some .int), .methodLink RX2 67 yX2_owedTo, .instanceMethod yX2_owedTo, .selects RX2 yX2_owedTo yX2_owedTo, .initialized RX2, .code yX2_owedTo cX2_owedTo 4 (some .int), .fieldLink RX2 17 "CowsOwed$Herds" "debts" "[[I", .methodLink RX2 64 yX2_owedBy, .instanceMethod yX2_owedBy, .selects RX2 yX2_owedBy yX2_owedBy, .code yX2_owedBy cX2_owedBy 4 (some .int)] ++ wsX20)
def wsX2_nextSeed : List Cond := .code yX2_nextSeed cX2_nextSeed 1 (some .int) :: ([.constantLong RX2 86 (1103515245), .constantLong RX2 88 (12345), .constantLong RX2 90 (2147483648)])
def wsX2_drawn : List Cond := .code yX2_drawn cX2_drawn 2 (some .int) :: ([.fieldLink RX2 20 "CowsOwed$Herds" "size" "I", .constant RX2 92 (65536)] ++ wsX20)
def wsX2_live_r1 : List Cond := [Cond.methodLink RX2 70 yX2_nextSeed, Cond.static yX2_nextSeed, Cond.initialized RX2, Cond.code yX2_nextSeed cX2_nextSeed 1 (some .int), Cond.constantLong RX2 86 (1103515245), Cond.constantLong RX2 88 (12345), Cond.constantLong RX2 90 (2147483648), Cond.methodLink RX2 73 yX2_drawn, Cond.instanceMethod yX2_drawn, Cond.selects RX2 yX2_drawn yX2_drawn, Cond.code yX2_drawn cX2_drawn 2 (some .int), Cond.fieldLink RX2 20 "CowsOwed$Herds" "size" "I", Cond.constant RX2 92 (65536), Cond.methodLink RX2 76 yX2_knowsCouple, Cond.instanceMethod yX2_knowsCouple, Cond.selects RX2 yX2_knowsCouple yX2_knowsCouple, Cond.code yX2_knowsCouple cX2_knowsCouple 3 (some .boolean), Cond.methodLink RX2 31 yX2_knows, Cond.instanceMethod yX2_knows, Cond.selects RX2 yX2_knows yX2_knows, Cond.code yX2_knows cX2_knows 2 (some .boolean), Cond.methodLink RX2 80 yX2_marry, Cond.instanceMethod yX2_marry, Cond.selects RX2 yX2_marry yX2_marry]
def wsX2_live_r2 : List Cond := [Cond.code yX2_marry cX2_marry 4 (some .int), Cond.fieldLink RX2 27 "CowsOwed$Herds" "clans" "[LCowsOwed$Clan;", Cond.fieldLink RX2 24 "CowsOwed$Herds" "price" "I", Cond.methodLink RX2 35 ⟨"CowsOwed$Clan", "asks", "(I)I"⟩, Cond.sameMethod "CowsOwed$Clan" "CowsOwed$Clan" "asks" "(I)I", Cond.selects RX0 ⟨"CowsOwed$Clan", "asks", "(I)I"⟩ yX1_asks, Cond.instanceMethod yX1_asks, Cond.initialized RX1, Cond.code yX1_asks cX1_asks 2 (some .int), Cond.methodLink RX2 35 yX1_asks, Cond.selects RX1 yX1_asks yX1_asks, Cond.instanceMethod ⟨"CowsOwed$Clan", "asks", "(I)I"⟩, Cond.selects RX3 ⟨"CowsOwed$Clan", "asks", "(I)I"⟩ yX3_asks, Cond.instanceMethod yX3_asks, Cond.initialized RX3, Cond.code yX3_asks cX3_asks 2 (some .int), Cond.methodLink RX3 9 yX7_asks, Cond.sameMethod "CowsOwed$Proud" "CowsOwed$Proud" "asks" "(I)I", Cond.superclass RX3 RX7, Cond.instanceMethod yX7_asks, Cond.initialized RX7, Cond.code yX7_asks cX7_asks 2 (some .int), Cond.selects RX6 ⟨"CowsOwed$Clan", "asks", "(I)I"⟩ yX6_asks, Cond.instanceMethod yX6_asks]
def wsX2_live_r3 : List Cond := [Cond.initialized RX6, Cond.code yX6_asks cX6_asks 2 (some .int), Cond.methodLink RX6 9 Lib.Math.max.name, Cond.static Lib.Math.max.name, Cond.initialized "java/lang/Math", Cond.code Lib.Math.max.name Lib.Math.max.code 2 (some .int), Cond.selects RX7 ⟨"CowsOwed$Clan", "asks", "(I)I"⟩ yX7_asks, Cond.methodLink RX2 44 yX2_pay, Cond.instanceMethod yX2_pay, Cond.selects RX2 yX2_pay yX2_pay, Cond.code yX2_pay cX2_pay 5 (some .int), Cond.fieldLink RX2 9 "CowsOwed$Herds" "cows" "[I", Cond.methodLink RX2 48 Lib.Math.min.name, Cond.static Lib.Math.min.name, Cond.code Lib.Math.min.name Lib.Math.min.code 2 (some .int), Cond.fieldLink RX2 17 "CowsOwed$Herds" "debts" "[[I", Cond.methodLink RX2 41 ⟨"CowsOwed$Clan", "spares", "(I)I"⟩, Cond.sameMethod "CowsOwed$Clan" "CowsOwed$Clan" "spares" "(I)I", Cond.instanceMethod ⟨"CowsOwed$Clan", "spares", "(I)I"⟩, Cond.selects RX0 ⟨"CowsOwed$Clan", "spares", "(I)I"⟩ yX0_spares, Cond.instanceMethod yX0_spares, Cond.initialized RX0, Cond.code yX0_spares cX0_spares 2 (some .int), Cond.code yX1_spares cX1_spares 2 (some .int)]
def wsX2_live_r4 : List Cond := [Cond.methodLink RX2 41 yX1_spares, Cond.instanceMethod yX1_spares, Cond.selects RX1 yX1_spares yX1_spares, Cond.selects RX3 ⟨"CowsOwed$Clan", "spares", "(I)I"⟩ yX1_spares, Cond.selects RX6 ⟨"CowsOwed$Clan", "spares", "(I)I"⟩ yX1_spares, Cond.selects RX7 ⟨"CowsOwed$Clan", "spares", "(I)I"⟩ yX1_spares, Cond.methodLink RX2 83 yX2_passYear, Cond.instanceMethod yX2_passYear, Cond.selects RX2 yX2_passYear yX2_passYear, Cond.code yX2_passYear cX2_passYear 3 none, Cond.methodLink RX2 54 yX2_grown, Cond.static yX2_grown, Cond.code yX2_grown cX2_grown 1 (some .int), Cond.methodLink RX2 61 Lib.Math.max.name, Cond.methodLink RX2 57 yX2_payDebt, Cond.instanceMethod yX2_payDebt, Cond.selects RX2 yX2_payDebt yX2_payDebt, Cond.code yX2_payDebt cX2_payDebt 4 none]
def wsX2_live : List Cond := .code yX2_live cX2_live 7 (some .int) :: ((wsX2_live_r1 ++ (wsX2_live_r2 ++ (wsX2_live_r3 ++ wsX2_live_r4))) ++ wsX20)
def wsX7_init : List Cond := .code yX7_init cX7_init 1 none :: ([.instanceMethod yX1_init, .initialized RX1, .code yX1_init cX1_init 1 none, .methodLink RX1 3 objectInit, .instanceMethod objectInit, .code objectInit ⟨#[0xb1]⟩ 1 none])
def wsX3_init : List Cond := .code yX3_init cX3_init 1 none :: ([.instanceMethod yX7_init, .initialized RX7, .code yX7_init cX7_init 1 none, .instanceMethod yX1_init, .initialized RX1, .code yX1_init cX1_init 1 none, .methodLink RX1 3 objectInit, .instanceMethod objectInit, .code objectInit ⟨#[0xb1]⟩ 1 none])
def wsX3_number : List Cond := .code yX3_number cX3_number 1 (some .int) :: ([])
def wsX4_init : List Cond := .code yX4_init cX4_init 1 none :: ([.methodLink RX4 3 objectInit, .instanceMethod objectInit, .code objectInit ⟨#[0xb1]⟩ 1 none, .arrayClass .int, .fieldLink RX4 9 "CowsOwed$Page" "codes" "[I", .fieldLink RX4 15 "CowsOwed$Page" "size" "I"] ++ wsX40)
def wsX4_put : List Cond := .code yX4_put cX4_put 2 (some .int) :: ([.fieldLink RX4 9 "CowsOwed$Page" "codes" "[I", .fieldLink RX4 15 "CowsOwed$Page" "size" "I"] ++ wsX40)
def wsJ0_isLatin1_aae02 : List Cond := .code yJ0_isLatin1_aae02 cJ0_isLatin1_aae02 1 (some .boolean) :: ([.fieldLink RJ0 38 "java/lang/String" "COMPACT_STRINGS" "Z", .fieldLink RJ0 15 "java/lang/String" "coder" "B"])
def wsJ0_coder_7d493 : List Cond := .code yJ0_coder_7d493 cJ0_coder_7d493 1 (some .byte) :: ([.fieldLink RJ0 38 "java/lang/String" "COMPACT_STRINGS" "Z", .fieldLink RJ0 15 "java/lang/String" "coder" "B"])
def wsJ0_length_8abf5 : List Cond := .code yJ0_length_8abf5 cJ0_length_8abf5 1 (some .int) :: ([.fieldLink RJ0 9 "java/lang/String" "value" "[B", .methodLink RJ0 335 yJ0_coder_7d493, .instanceMethod yJ0_coder_7d493, .selects RJ0 yJ0_coder_7d493 yJ0_coder_7d493, .initialized RJ0, .code yJ0_coder_7d493 cJ0_coder_7d493 1 (some .byte), .fieldLink RJ0 38 "java/lang/String" "COMPACT_STRINGS" "Z", .fieldLink RJ0 15 "java/lang/String" "coder" "B"])
def wsJ1_canEncode_9a6ad : List Cond := .code yJ1_canEncode_9a6ad cJ1_canEncode_9a6ad 1 (some .boolean) :: ([])
def wsJ1_indexOfChar_4cfef : List Cond := .code yJ1_indexOfChar_4cfef cJ1_indexOfChar_4cfef 6 (some .int) :: ([])
def wsJ1_indexOf_4cfef : List Cond := .code yJ1_indexOf_4cfef cJ1_indexOf_4cfef 4 (some .int) :: ([.methodLink RJ1 92 Lib.Math.max.name, .static Lib.Math.max.name, .initialized "java/lang/Math", .code Lib.Math.max.name Lib.Math.max.code 2 (some .int), .methodLink RJ1 38 Lib.Math.min.name, .static Lib.Math.min.name, .code Lib.Math.min.name Lib.Math.min.code 2 (some .int), .methodLink RJ1 88 yJ1_canEncode_9a6ad, .static yJ1_canEncode_9a6ad, .initialized RJ1, .code yJ1_canEncode_9a6ad cJ1_canEncode_9a6ad 1 (some .boolean), .methodLink RJ1 95 yJ1_indexOfChar_4cfef, .static yJ1_indexOfChar_4cfef, .code yJ1_indexOfChar_4cfef cJ1_indexOfChar_4cfef 6 (some .int)])
def wsJ2_length_9d52b : List Cond := .code yJ2_length_9d52b cJ2_length_9d52b 1 (some .int) :: ([])
def wsJ3_checkFromToIndex_8c36e : List Cond := .code yJ3_checkFromToIndex_8c36e cJ3_checkFromToIndex_8c36e 4 (some .int) :: ([])
def wsJ0_checkBoundsBeginEnd_23922 : List Cond := .code yJ0_checkBoundsBeginEnd_23922 cJ0_checkBoundsBeginEnd_23922 3 none :: ([.fieldLink RJ0 1053 "jdk/internal/util/Preconditions" "SIOOBE_FORMATTER" "Ljava/util/function/BiFunction;", .methodLink RJ0 1062 yJ3_checkFromToIndex_8c36e, .static yJ3_checkFromToIndex_8c36e, .initialized RJ3, .code yJ3_checkFromToIndex_8c36e cJ3_checkFromToIndex_8c36e 4 (some .int)])
def wsJ2_checkBoundsBeginEnd_d044e : List Cond := .code yJ2_checkBoundsBeginEnd_d044e cJ2_checkBoundsBeginEnd_d044e 3 none :: ([.methodLink RJ2 48 yJ2_length_9d52b, .static yJ2_length_9d52b, .initialized RJ2, .code yJ2_length_9d52b cJ2_length_9d52b 1 (some .int), .methodLink RJ2 241 yJ0_checkBoundsBeginEnd_23922, .static yJ0_checkBoundsBeginEnd_23922, .initialized RJ0, .code yJ0_checkBoundsBeginEnd_23922 cJ0_checkBoundsBeginEnd_23922 3 none, .fieldLink RJ0 1053 "jdk/internal/util/Preconditions" "SIOOBE_FORMATTER" "Ljava/util/function/BiFunction;", .methodLink RJ0 1062 yJ3_checkFromToIndex_8c36e, .static yJ3_checkFromToIndex_8c36e, .initialized RJ3, .code yJ3_checkFromToIndex_8c36e cJ3_checkFromToIndex_8c36e 4 (some .int)])
def wsJ2_getChar_3b067 : List Cond := .code yJ2_getChar_3b067 cJ2_getChar_3b067 2 (some .char) :: ([.fieldLink RJ2 44 "java/lang/StringUTF16" "$assertionsDisabled" "Z", .fieldLink RJ2 59 "java/lang/StringUTF16" "HI_BYTE_SHIFT" "I", .fieldLink RJ2 63 "java/lang/StringUTF16" "LO_BYTE_SHIFT" "I", .methodLink RJ2 48 yJ2_length_9d52b, .static yJ2_length_9d52b, .initialized RJ2, .code yJ2_length_9d52b cJ2_length_9d52b 1 (some .int)])
def wsJ2_indexOfCharUnsafe_4cfef : List Cond := .code yJ2_indexOfCharUnsafe_4cfef cJ2_indexOfCharUnsafe_4cfef 5 (some .int) :: ([.methodLink RJ2 71 yJ2_getChar_3b067, .static yJ2_getChar_3b067, .initialized RJ2, .code yJ2_getChar_3b067 cJ2_getChar_3b067 2 (some .char), .fieldLink RJ2 44 "java/lang/StringUTF16" "$assertionsDisabled" "Z", .fieldLink RJ2 59 "java/lang/StringUTF16" "HI_BYTE_SHIFT" "I", .fieldLink RJ2 63 "java/lang/StringUTF16" "LO_BYTE_SHIFT" "I", .methodLink RJ2 48 yJ2_length_9d52b, .static yJ2_length_9d52b, .code yJ2_length_9d52b cJ2_length_9d52b 1 (some .int)])
def wsJ2_indexOfChar_4cfef_r1 : List Cond := [Cond.methodLink RJ2 96 yJ2_checkBoundsBeginEnd_d044e, Cond.static yJ2_checkBoundsBeginEnd_d044e, Cond.initialized RJ2, Cond.code yJ2_checkBoundsBeginEnd_d044e cJ2_checkBoundsBeginEnd_d044e 3 none, Cond.methodLink RJ2 48 yJ2_length_9d52b, Cond.static yJ2_length_9d52b, Cond.code yJ2_length_9d52b cJ2_length_9d52b 1 (some .int), Cond.methodLink RJ2 241 yJ0_checkBoundsBeginEnd_23922, Cond.static yJ0_checkBoundsBeginEnd_23922, Cond.initialized RJ0, Cond.code yJ0_checkBoundsBeginEnd_23922 cJ0_checkBoundsBeginEnd_23922 3 none, Cond.fieldLink RJ0 1053 "jdk/internal/util/Preconditions" "SIOOBE_FORMATTER" "Ljava/util/function/BiFunction;", Cond.methodLink RJ0 1062 yJ3_checkFromToIndex_8c36e, Cond.static yJ3_checkFromToIndex_8c36e, Cond.initialized RJ3, Cond.code yJ3_checkFromToIndex_8c36e cJ3_checkFromToIndex_8c36e 4 (some .int), Cond.methodLink RJ2 244 yJ2_indexOfCharUnsafe_4cfef, Cond.static yJ2_indexOfCharUnsafe_4cfef, Cond.code yJ2_indexOfCharUnsafe_4cfef cJ2_indexOfCharUnsafe_4cfef 5 (some .int), Cond.methodLink RJ2 71 yJ2_getChar_3b067, Cond.static yJ2_getChar_3b067, Cond.code yJ2_getChar_3b067 cJ2_getChar_3b067 2 (some .char), Cond.fieldLink RJ2 44 "java/lang/StringUTF16" "$assertionsDisabled" "Z", Cond.fieldLink RJ2 59 "java/lang/StringUTF16" "HI_BYTE_SHIFT" "I"]
def wsJ2_indexOfChar_4cfef_r2 : List Cond := [Cond.fieldLink RJ2 63 "java/lang/StringUTF16" "LO_BYTE_SHIFT" "I"]
def wsJ2_indexOfChar_4cfef : List Cond := .code yJ2_indexOfChar_4cfef cJ2_indexOfChar_4cfef 4 (some .int) :: ((wsJ2_indexOfChar_4cfef_r1 ++ wsJ2_indexOfChar_4cfef_r2))
def wsJ11_isValidCodePoint_9a6ad : List Cond := .code yJ11_isValidCodePoint_9a6ad cJ11_isValidCodePoint_9a6ad 2 (some .boolean) :: ([])
def wsJ11_highSurrogate_5068e : List Cond := .code yJ11_highSurrogate_5068e cJ11_highSurrogate_5068e 1 (some .char) :: ([.constant RJ11 110 (55232)])
def wsJ11_lowSurrogate_5068e : List Cond := .code yJ11_lowSurrogate_5068e cJ11_lowSurrogate_5068e 1 (some .char) :: ([.constant RJ11 76 (56320)])
def wsJ2_indexOfSupplementary_4cfef_r1 : List Cond := [Cond.methodLink RJ2 164 yJ11_isValidCodePoint_9a6ad, Cond.static yJ11_isValidCodePoint_9a6ad, Cond.initialized RJ11, Cond.code yJ11_isValidCodePoint_9a6ad cJ11_isValidCodePoint_9a6ad 2 (some .boolean), Cond.methodLink RJ2 157 yJ11_highSurrogate_5068e, Cond.static yJ11_highSurrogate_5068e, Cond.code yJ11_highSurrogate_5068e cJ11_highSurrogate_5068e 1 (some .char), Cond.constant RJ11 110 (55232), Cond.methodLink RJ2 161 yJ11_lowSurrogate_5068e, Cond.static yJ11_lowSurrogate_5068e, Cond.code yJ11_lowSurrogate_5068e cJ11_lowSurrogate_5068e 1 (some .char), Cond.constant RJ11 76 (56320), Cond.methodLink RJ2 96 yJ2_checkBoundsBeginEnd_d044e, Cond.static yJ2_checkBoundsBeginEnd_d044e, Cond.initialized RJ2, Cond.code yJ2_checkBoundsBeginEnd_d044e cJ2_checkBoundsBeginEnd_d044e 3 none, Cond.methodLink RJ2 48 yJ2_length_9d52b, Cond.static yJ2_length_9d52b, Cond.code yJ2_length_9d52b cJ2_length_9d52b 1 (some .int), Cond.methodLink RJ2 241 yJ0_checkBoundsBeginEnd_23922, Cond.static yJ0_checkBoundsBeginEnd_23922, Cond.initialized RJ0, Cond.code yJ0_checkBoundsBeginEnd_23922 cJ0_checkBoundsBeginEnd_23922 3 none, Cond.fieldLink RJ0 1053 "jdk/internal/util/Preconditions" "SIOOBE_FORMATTER" "Ljava/util/function/BiFunction;"]
def wsJ2_indexOfSupplementary_4cfef_r2 : List Cond := [Cond.methodLink RJ0 1062 yJ3_checkFromToIndex_8c36e, Cond.static yJ3_checkFromToIndex_8c36e, Cond.initialized RJ3, Cond.code yJ3_checkFromToIndex_8c36e cJ3_checkFromToIndex_8c36e 4 (some .int), Cond.methodLink RJ2 71 yJ2_getChar_3b067, Cond.static yJ2_getChar_3b067, Cond.code yJ2_getChar_3b067 cJ2_getChar_3b067 2 (some .char), Cond.fieldLink RJ2 44 "java/lang/StringUTF16" "$assertionsDisabled" "Z", Cond.fieldLink RJ2 59 "java/lang/StringUTF16" "HI_BYTE_SHIFT" "I", Cond.fieldLink RJ2 63 "java/lang/StringUTF16" "LO_BYTE_SHIFT" "I"]
def wsJ2_indexOfSupplementary_4cfef : List Cond := .code yJ2_indexOfSupplementary_4cfef cJ2_indexOfSupplementary_4cfef 7 (some .int) :: ((wsJ2_indexOfSupplementary_4cfef_r1 ++ wsJ2_indexOfSupplementary_4cfef_r2))
def wsJ2_indexOf_4cfef_r1 : List Cond := [Cond.methodLink RJ2 224 Lib.Math.max.name, Cond.static Lib.Math.max.name, Cond.initialized "java/lang/Math", Cond.code Lib.Math.max.name Lib.Math.max.code 2 (some .int), Cond.methodLink RJ2 183 Lib.Math.min.name, Cond.static Lib.Math.min.name, Cond.code Lib.Math.min.name Lib.Math.min.code 2 (some .int), Cond.constant RJ2 227 (65536), Cond.methodLink RJ2 228 yJ2_indexOfChar_4cfef, Cond.static yJ2_indexOfChar_4cfef, Cond.initialized RJ2, Cond.code yJ2_indexOfChar_4cfef cJ2_indexOfChar_4cfef 4 (some .int), Cond.methodLink RJ2 96 yJ2_checkBoundsBeginEnd_d044e, Cond.static yJ2_checkBoundsBeginEnd_d044e, Cond.code yJ2_checkBoundsBeginEnd_d044e cJ2_checkBoundsBeginEnd_d044e 3 none, Cond.methodLink RJ2 48 yJ2_length_9d52b, Cond.static yJ2_length_9d52b, Cond.code yJ2_length_9d52b cJ2_length_9d52b 1 (some .int), Cond.methodLink RJ2 241 yJ0_checkBoundsBeginEnd_23922, Cond.static yJ0_checkBoundsBeginEnd_23922, Cond.initialized RJ0, Cond.code yJ0_checkBoundsBeginEnd_23922 cJ0_checkBoundsBeginEnd_23922 3 none, Cond.fieldLink RJ0 1053 "jdk/internal/util/Preconditions" "SIOOBE_FORMATTER" "Ljava/util/function/BiFunction;", Cond.methodLink RJ0 1062 yJ3_checkFromToIndex_8c36e]
def wsJ2_indexOf_4cfef_r2 : List Cond := [Cond.static yJ3_checkFromToIndex_8c36e, Cond.initialized RJ3, Cond.code yJ3_checkFromToIndex_8c36e cJ3_checkFromToIndex_8c36e 4 (some .int), Cond.methodLink RJ2 244 yJ2_indexOfCharUnsafe_4cfef, Cond.static yJ2_indexOfCharUnsafe_4cfef, Cond.code yJ2_indexOfCharUnsafe_4cfef cJ2_indexOfCharUnsafe_4cfef 5 (some .int), Cond.methodLink RJ2 71 yJ2_getChar_3b067, Cond.static yJ2_getChar_3b067, Cond.code yJ2_getChar_3b067 cJ2_getChar_3b067 2 (some .char), Cond.fieldLink RJ2 44 "java/lang/StringUTF16" "$assertionsDisabled" "Z", Cond.fieldLink RJ2 59 "java/lang/StringUTF16" "HI_BYTE_SHIFT" "I", Cond.fieldLink RJ2 63 "java/lang/StringUTF16" "LO_BYTE_SHIFT" "I", Cond.methodLink RJ2 232 yJ2_indexOfSupplementary_4cfef, Cond.static yJ2_indexOfSupplementary_4cfef, Cond.code yJ2_indexOfSupplementary_4cfef cJ2_indexOfSupplementary_4cfef 7 (some .int), Cond.methodLink RJ2 164 yJ11_isValidCodePoint_9a6ad, Cond.static yJ11_isValidCodePoint_9a6ad, Cond.initialized RJ11, Cond.code yJ11_isValidCodePoint_9a6ad cJ11_isValidCodePoint_9a6ad 2 (some .boolean), Cond.methodLink RJ2 157 yJ11_highSurrogate_5068e, Cond.static yJ11_highSurrogate_5068e, Cond.code yJ11_highSurrogate_5068e cJ11_highSurrogate_5068e 1 (some .char), Cond.constant RJ11 110 (55232), Cond.methodLink RJ2 161 yJ11_lowSurrogate_5068e]
def wsJ2_indexOf_4cfef_r3 : List Cond := [Cond.static yJ11_lowSurrogate_5068e, Cond.code yJ11_lowSurrogate_5068e cJ11_lowSurrogate_5068e 1 (some .char), Cond.constant RJ11 76 (56320)]
def wsJ2_indexOf_4cfef : List Cond := .code yJ2_indexOf_4cfef cJ2_indexOf_4cfef 4 (some .int) :: ((wsJ2_indexOf_4cfef_r1 ++ (wsJ2_indexOf_4cfef_r2 ++ wsJ2_indexOf_4cfef_r3)))
def wsJ0_indexOf_7cf53_r1 : List Cond := [Cond.fieldLink RJ0 9 "java/lang/String" "value" "[B", Cond.methodLink RJ0 492 yJ0_isLatin1_aae02, Cond.instanceMethod yJ0_isLatin1_aae02, Cond.selects RJ0 yJ0_isLatin1_aae02 yJ0_isLatin1_aae02, Cond.initialized RJ0, Cond.code yJ0_isLatin1_aae02 cJ0_isLatin1_aae02 1 (some .boolean), Cond.fieldLink RJ0 38 "java/lang/String" "COMPACT_STRINGS" "Z", Cond.fieldLink RJ0 15 "java/lang/String" "coder" "B", Cond.methodLink RJ0 505 yJ0_length_8abf5, Cond.instanceMethod yJ0_length_8abf5, Cond.selects RJ0 yJ0_length_8abf5 yJ0_length_8abf5, Cond.code yJ0_length_8abf5 cJ0_length_8abf5 1 (some .int), Cond.methodLink RJ0 335 yJ0_coder_7d493, Cond.instanceMethod yJ0_coder_7d493, Cond.selects RJ0 yJ0_coder_7d493 yJ0_coder_7d493, Cond.code yJ0_coder_7d493 cJ0_coder_7d493 1 (some .byte), Cond.methodLink RJ0 637 yJ1_indexOf_4cfef, Cond.static yJ1_indexOf_4cfef, Cond.initialized RJ1, Cond.code yJ1_indexOf_4cfef cJ1_indexOf_4cfef 4 (some .int), Cond.methodLink RJ1 92 Lib.Math.max.name, Cond.static Lib.Math.max.name, Cond.initialized "java/lang/Math", Cond.code Lib.Math.max.name Lib.Math.max.code 2 (some .int)]
def wsJ0_indexOf_7cf53_r2 : List Cond := [Cond.methodLink RJ1 38 Lib.Math.min.name, Cond.static Lib.Math.min.name, Cond.code Lib.Math.min.name Lib.Math.min.code 2 (some .int), Cond.methodLink RJ1 88 yJ1_canEncode_9a6ad, Cond.static yJ1_canEncode_9a6ad, Cond.code yJ1_canEncode_9a6ad cJ1_canEncode_9a6ad 1 (some .boolean), Cond.methodLink RJ1 95 yJ1_indexOfChar_4cfef, Cond.static yJ1_indexOfChar_4cfef, Cond.code yJ1_indexOfChar_4cfef cJ1_indexOfChar_4cfef 6 (some .int), Cond.methodLink RJ0 640 yJ2_indexOf_4cfef, Cond.static yJ2_indexOf_4cfef, Cond.initialized RJ2, Cond.code yJ2_indexOf_4cfef cJ2_indexOf_4cfef 4 (some .int), Cond.methodLink RJ2 224 Lib.Math.max.name, Cond.methodLink RJ2 183 Lib.Math.min.name, Cond.constant RJ2 227 (65536), Cond.methodLink RJ2 228 yJ2_indexOfChar_4cfef, Cond.static yJ2_indexOfChar_4cfef, Cond.code yJ2_indexOfChar_4cfef cJ2_indexOfChar_4cfef 4 (some .int), Cond.methodLink RJ2 96 yJ2_checkBoundsBeginEnd_d044e, Cond.static yJ2_checkBoundsBeginEnd_d044e, Cond.code yJ2_checkBoundsBeginEnd_d044e cJ2_checkBoundsBeginEnd_d044e 3 none, Cond.methodLink RJ2 48 yJ2_length_9d52b, Cond.static yJ2_length_9d52b]
def wsJ0_indexOf_7cf53_r3 : List Cond := [Cond.code yJ2_length_9d52b cJ2_length_9d52b 1 (some .int), Cond.methodLink RJ2 241 yJ0_checkBoundsBeginEnd_23922, Cond.static yJ0_checkBoundsBeginEnd_23922, Cond.code yJ0_checkBoundsBeginEnd_23922 cJ0_checkBoundsBeginEnd_23922 3 none, Cond.fieldLink RJ0 1053 "jdk/internal/util/Preconditions" "SIOOBE_FORMATTER" "Ljava/util/function/BiFunction;", Cond.methodLink RJ0 1062 yJ3_checkFromToIndex_8c36e, Cond.static yJ3_checkFromToIndex_8c36e, Cond.initialized RJ3, Cond.code yJ3_checkFromToIndex_8c36e cJ3_checkFromToIndex_8c36e 4 (some .int), Cond.methodLink RJ2 244 yJ2_indexOfCharUnsafe_4cfef, Cond.static yJ2_indexOfCharUnsafe_4cfef, Cond.code yJ2_indexOfCharUnsafe_4cfef cJ2_indexOfCharUnsafe_4cfef 5 (some .int), Cond.methodLink RJ2 71 yJ2_getChar_3b067, Cond.static yJ2_getChar_3b067, Cond.code yJ2_getChar_3b067 cJ2_getChar_3b067 2 (some .char), Cond.fieldLink RJ2 44 "java/lang/StringUTF16" "$assertionsDisabled" "Z", Cond.fieldLink RJ2 59 "java/lang/StringUTF16" "HI_BYTE_SHIFT" "I", Cond.fieldLink RJ2 63 "java/lang/StringUTF16" "LO_BYTE_SHIFT" "I", Cond.methodLink RJ2 232 yJ2_indexOfSupplementary_4cfef, Cond.static yJ2_indexOfSupplementary_4cfef, Cond.code yJ2_indexOfSupplementary_4cfef cJ2_indexOfSupplementary_4cfef 7 (some .int), Cond.methodLink RJ2 164 yJ11_isValidCodePoint_9a6ad, Cond.static yJ11_isValidCodePoint_9a6ad, Cond.initialized RJ11]
def wsJ0_indexOf_7cf53_r4 : List Cond := [Cond.code yJ11_isValidCodePoint_9a6ad cJ11_isValidCodePoint_9a6ad 2 (some .boolean), Cond.methodLink RJ2 157 yJ11_highSurrogate_5068e, Cond.static yJ11_highSurrogate_5068e, Cond.code yJ11_highSurrogate_5068e cJ11_highSurrogate_5068e 1 (some .char), Cond.constant RJ11 110 (55232), Cond.methodLink RJ2 161 yJ11_lowSurrogate_5068e, Cond.static yJ11_lowSurrogate_5068e, Cond.code yJ11_lowSurrogate_5068e cJ11_lowSurrogate_5068e 1 (some .char), Cond.constant RJ11 76 (56320)]
def wsJ0_indexOf_7cf53 : List Cond := .code yJ0_indexOf_7cf53 cJ0_indexOf_7cf53 3 (some .int) :: ((wsJ0_indexOf_7cf53_r1 ++ (wsJ0_indexOf_7cf53_r2 ++ (wsJ0_indexOf_7cf53_r3 ++ wsJ0_indexOf_7cf53_r4))))
def wsJ0_indexOf_0f7a4_r1 : List Cond := [Cond.methodLink RJ0 633 yJ0_indexOf_7cf53, Cond.instanceMethod yJ0_indexOf_7cf53, Cond.selects RJ0 yJ0_indexOf_7cf53 yJ0_indexOf_7cf53, Cond.initialized RJ0, Cond.code yJ0_indexOf_7cf53 cJ0_indexOf_7cf53 3 (some .int), Cond.fieldLink RJ0 9 "java/lang/String" "value" "[B", Cond.methodLink RJ0 492 yJ0_isLatin1_aae02, Cond.instanceMethod yJ0_isLatin1_aae02, Cond.selects RJ0 yJ0_isLatin1_aae02 yJ0_isLatin1_aae02, Cond.code yJ0_isLatin1_aae02 cJ0_isLatin1_aae02 1 (some .boolean), Cond.fieldLink RJ0 38 "java/lang/String" "COMPACT_STRINGS" "Z", Cond.fieldLink RJ0 15 "java/lang/String" "coder" "B", Cond.methodLink RJ0 505 yJ0_length_8abf5, Cond.instanceMethod yJ0_length_8abf5, Cond.selects RJ0 yJ0_length_8abf5 yJ0_length_8abf5, Cond.code yJ0_length_8abf5 cJ0_length_8abf5 1 (some .int), Cond.methodLink RJ0 335 yJ0_coder_7d493, Cond.instanceMethod yJ0_coder_7d493, Cond.selects RJ0 yJ0_coder_7d493 yJ0_coder_7d493, Cond.code yJ0_coder_7d493 cJ0_coder_7d493 1 (some .byte), Cond.methodLink RJ0 637 yJ1_indexOf_4cfef, Cond.static yJ1_indexOf_4cfef, Cond.initialized RJ1, Cond.code yJ1_indexOf_4cfef cJ1_indexOf_4cfef 4 (some .int)]
def wsJ0_indexOf_0f7a4_r2 : List Cond := [Cond.methodLink RJ1 92 Lib.Math.max.name, Cond.static Lib.Math.max.name, Cond.initialized "java/lang/Math", Cond.code Lib.Math.max.name Lib.Math.max.code 2 (some .int), Cond.methodLink RJ1 38 Lib.Math.min.name, Cond.static Lib.Math.min.name, Cond.code Lib.Math.min.name Lib.Math.min.code 2 (some .int), Cond.methodLink RJ1 88 yJ1_canEncode_9a6ad, Cond.static yJ1_canEncode_9a6ad, Cond.code yJ1_canEncode_9a6ad cJ1_canEncode_9a6ad 1 (some .boolean), Cond.methodLink RJ1 95 yJ1_indexOfChar_4cfef, Cond.static yJ1_indexOfChar_4cfef, Cond.code yJ1_indexOfChar_4cfef cJ1_indexOfChar_4cfef 6 (some .int), Cond.methodLink RJ0 640 yJ2_indexOf_4cfef, Cond.static yJ2_indexOf_4cfef, Cond.initialized RJ2, Cond.code yJ2_indexOf_4cfef cJ2_indexOf_4cfef 4 (some .int), Cond.methodLink RJ2 224 Lib.Math.max.name, Cond.methodLink RJ2 183 Lib.Math.min.name, Cond.constant RJ2 227 (65536), Cond.methodLink RJ2 228 yJ2_indexOfChar_4cfef, Cond.static yJ2_indexOfChar_4cfef, Cond.code yJ2_indexOfChar_4cfef cJ2_indexOfChar_4cfef 4 (some .int), Cond.methodLink RJ2 96 yJ2_checkBoundsBeginEnd_d044e]
def wsJ0_indexOf_0f7a4_r3 : List Cond := [Cond.static yJ2_checkBoundsBeginEnd_d044e, Cond.code yJ2_checkBoundsBeginEnd_d044e cJ2_checkBoundsBeginEnd_d044e 3 none, Cond.methodLink RJ2 48 yJ2_length_9d52b, Cond.static yJ2_length_9d52b, Cond.code yJ2_length_9d52b cJ2_length_9d52b 1 (some .int), Cond.methodLink RJ2 241 yJ0_checkBoundsBeginEnd_23922, Cond.static yJ0_checkBoundsBeginEnd_23922, Cond.code yJ0_checkBoundsBeginEnd_23922 cJ0_checkBoundsBeginEnd_23922 3 none, Cond.fieldLink RJ0 1053 "jdk/internal/util/Preconditions" "SIOOBE_FORMATTER" "Ljava/util/function/BiFunction;", Cond.methodLink RJ0 1062 yJ3_checkFromToIndex_8c36e, Cond.static yJ3_checkFromToIndex_8c36e, Cond.initialized RJ3, Cond.code yJ3_checkFromToIndex_8c36e cJ3_checkFromToIndex_8c36e 4 (some .int), Cond.methodLink RJ2 244 yJ2_indexOfCharUnsafe_4cfef, Cond.static yJ2_indexOfCharUnsafe_4cfef, Cond.code yJ2_indexOfCharUnsafe_4cfef cJ2_indexOfCharUnsafe_4cfef 5 (some .int), Cond.methodLink RJ2 71 yJ2_getChar_3b067, Cond.static yJ2_getChar_3b067, Cond.code yJ2_getChar_3b067 cJ2_getChar_3b067 2 (some .char), Cond.fieldLink RJ2 44 "java/lang/StringUTF16" "$assertionsDisabled" "Z", Cond.fieldLink RJ2 59 "java/lang/StringUTF16" "HI_BYTE_SHIFT" "I", Cond.fieldLink RJ2 63 "java/lang/StringUTF16" "LO_BYTE_SHIFT" "I", Cond.methodLink RJ2 232 yJ2_indexOfSupplementary_4cfef, Cond.static yJ2_indexOfSupplementary_4cfef]
def wsJ0_indexOf_0f7a4_r4 : List Cond := [Cond.code yJ2_indexOfSupplementary_4cfef cJ2_indexOfSupplementary_4cfef 7 (some .int), Cond.methodLink RJ2 164 yJ11_isValidCodePoint_9a6ad, Cond.static yJ11_isValidCodePoint_9a6ad, Cond.initialized RJ11, Cond.code yJ11_isValidCodePoint_9a6ad cJ11_isValidCodePoint_9a6ad 2 (some .boolean), Cond.methodLink RJ2 157 yJ11_highSurrogate_5068e, Cond.static yJ11_highSurrogate_5068e, Cond.code yJ11_highSurrogate_5068e cJ11_highSurrogate_5068e 1 (some .char), Cond.constant RJ11 110 (55232), Cond.methodLink RJ2 161 yJ11_lowSurrogate_5068e, Cond.static yJ11_lowSurrogate_5068e, Cond.code yJ11_lowSurrogate_5068e cJ11_lowSurrogate_5068e 1 (some .char), Cond.constant RJ11 76 (56320)]
def wsJ0_indexOf_0f7a4 : List Cond := .code yJ0_indexOf_0f7a4 cJ0_indexOf_0f7a4 2 (some .int) :: ((wsJ0_indexOf_0f7a4_r1 ++ (wsJ0_indexOf_0f7a4_r2 ++ (wsJ0_indexOf_0f7a4_r3 ++ wsJ0_indexOf_0f7a4_r4))))
def wsX4_kindOfLetter_r1 : List Cond := [Cond.methodLink RX4 33 yJ0_indexOf_0f7a4, Cond.instanceMethod yJ0_indexOf_0f7a4, Cond.selects RJ0 yJ0_indexOf_0f7a4 yJ0_indexOf_0f7a4, Cond.initialized RJ0, Cond.code yJ0_indexOf_0f7a4 cJ0_indexOf_0f7a4 2 (some .int), Cond.methodLink RJ0 633 yJ0_indexOf_7cf53, Cond.instanceMethod yJ0_indexOf_7cf53, Cond.selects RJ0 yJ0_indexOf_7cf53 yJ0_indexOf_7cf53, Cond.code yJ0_indexOf_7cf53 cJ0_indexOf_7cf53 3 (some .int), Cond.fieldLink RJ0 9 "java/lang/String" "value" "[B", Cond.methodLink RJ0 492 yJ0_isLatin1_aae02, Cond.instanceMethod yJ0_isLatin1_aae02, Cond.selects RJ0 yJ0_isLatin1_aae02 yJ0_isLatin1_aae02, Cond.code yJ0_isLatin1_aae02 cJ0_isLatin1_aae02 1 (some .boolean), Cond.fieldLink RJ0 38 "java/lang/String" "COMPACT_STRINGS" "Z", Cond.fieldLink RJ0 15 "java/lang/String" "coder" "B", Cond.methodLink RJ0 505 yJ0_length_8abf5, Cond.instanceMethod yJ0_length_8abf5, Cond.selects RJ0 yJ0_length_8abf5 yJ0_length_8abf5, Cond.code yJ0_length_8abf5 cJ0_length_8abf5 1 (some .int), Cond.methodLink RJ0 335 yJ0_coder_7d493, Cond.instanceMethod yJ0_coder_7d493, Cond.selects RJ0 yJ0_coder_7d493 yJ0_coder_7d493, Cond.code yJ0_coder_7d493 cJ0_coder_7d493 1 (some .byte)]
def wsX4_kindOfLetter_r2 : List Cond := [Cond.methodLink RJ0 637 yJ1_indexOf_4cfef, Cond.static yJ1_indexOf_4cfef, Cond.initialized RJ1, Cond.code yJ1_indexOf_4cfef cJ1_indexOf_4cfef 4 (some .int), Cond.methodLink RJ1 92 Lib.Math.max.name, Cond.static Lib.Math.max.name, Cond.initialized "java/lang/Math", Cond.code Lib.Math.max.name Lib.Math.max.code 2 (some .int), Cond.methodLink RJ1 38 Lib.Math.min.name, Cond.static Lib.Math.min.name, Cond.code Lib.Math.min.name Lib.Math.min.code 2 (some .int), Cond.methodLink RJ1 88 yJ1_canEncode_9a6ad, Cond.static yJ1_canEncode_9a6ad, Cond.code yJ1_canEncode_9a6ad cJ1_canEncode_9a6ad 1 (some .boolean), Cond.methodLink RJ1 95 yJ1_indexOfChar_4cfef, Cond.static yJ1_indexOfChar_4cfef, Cond.code yJ1_indexOfChar_4cfef cJ1_indexOfChar_4cfef 6 (some .int), Cond.methodLink RJ0 640 yJ2_indexOf_4cfef, Cond.static yJ2_indexOf_4cfef, Cond.initialized RJ2, Cond.code yJ2_indexOf_4cfef cJ2_indexOf_4cfef 4 (some .int), Cond.methodLink RJ2 224 Lib.Math.max.name, Cond.methodLink RJ2 183 Lib.Math.min.name, Cond.constant RJ2 227 (65536)]
def wsX4_kindOfLetter_r3 : List Cond := [Cond.methodLink RJ2 228 yJ2_indexOfChar_4cfef, Cond.static yJ2_indexOfChar_4cfef, Cond.code yJ2_indexOfChar_4cfef cJ2_indexOfChar_4cfef 4 (some .int), Cond.methodLink RJ2 96 yJ2_checkBoundsBeginEnd_d044e, Cond.static yJ2_checkBoundsBeginEnd_d044e, Cond.code yJ2_checkBoundsBeginEnd_d044e cJ2_checkBoundsBeginEnd_d044e 3 none, Cond.methodLink RJ2 48 yJ2_length_9d52b, Cond.static yJ2_length_9d52b, Cond.code yJ2_length_9d52b cJ2_length_9d52b 1 (some .int), Cond.methodLink RJ2 241 yJ0_checkBoundsBeginEnd_23922, Cond.static yJ0_checkBoundsBeginEnd_23922, Cond.code yJ0_checkBoundsBeginEnd_23922 cJ0_checkBoundsBeginEnd_23922 3 none, Cond.fieldLink RJ0 1053 "jdk/internal/util/Preconditions" "SIOOBE_FORMATTER" "Ljava/util/function/BiFunction;", Cond.methodLink RJ0 1062 yJ3_checkFromToIndex_8c36e, Cond.static yJ3_checkFromToIndex_8c36e, Cond.initialized RJ3, Cond.code yJ3_checkFromToIndex_8c36e cJ3_checkFromToIndex_8c36e 4 (some .int), Cond.methodLink RJ2 244 yJ2_indexOfCharUnsafe_4cfef, Cond.static yJ2_indexOfCharUnsafe_4cfef, Cond.code yJ2_indexOfCharUnsafe_4cfef cJ2_indexOfCharUnsafe_4cfef 5 (some .int), Cond.methodLink RJ2 71 yJ2_getChar_3b067, Cond.static yJ2_getChar_3b067, Cond.code yJ2_getChar_3b067 cJ2_getChar_3b067 2 (some .char), Cond.fieldLink RJ2 44 "java/lang/StringUTF16" "$assertionsDisabled" "Z"]
def wsX4_kindOfLetter_r4 : List Cond := [Cond.fieldLink RJ2 59 "java/lang/StringUTF16" "HI_BYTE_SHIFT" "I", Cond.fieldLink RJ2 63 "java/lang/StringUTF16" "LO_BYTE_SHIFT" "I", Cond.methodLink RJ2 232 yJ2_indexOfSupplementary_4cfef, Cond.static yJ2_indexOfSupplementary_4cfef, Cond.code yJ2_indexOfSupplementary_4cfef cJ2_indexOfSupplementary_4cfef 7 (some .int), Cond.methodLink RJ2 164 yJ11_isValidCodePoint_9a6ad, Cond.static yJ11_isValidCodePoint_9a6ad, Cond.initialized RJ11, Cond.code yJ11_isValidCodePoint_9a6ad cJ11_isValidCodePoint_9a6ad 2 (some .boolean), Cond.methodLink RJ2 157 yJ11_highSurrogate_5068e, Cond.static yJ11_highSurrogate_5068e, Cond.code yJ11_highSurrogate_5068e cJ11_highSurrogate_5068e 1 (some .char), Cond.constant RJ11 110 (55232), Cond.methodLink RJ2 161 yJ11_lowSurrogate_5068e, Cond.static yJ11_lowSurrogate_5068e, Cond.code yJ11_lowSurrogate_5068e cJ11_lowSurrogate_5068e 1 (some .char), Cond.constant RJ11 76 (56320)]
def wsX4_kindOfLetter : List Cond := .code yX4_kindOfLetter cX4_kindOfLetter 1 (some .int) :: ((wsX4_kindOfLetter_r1 ++ (wsX4_kindOfLetter_r2 ++ (wsX4_kindOfLetter_r3 ++ wsX4_kindOfLetter_r4))))
def wsX4_behindMark : List Cond := .code yX4_behindMark cX4_behindMark 2 (some .int) :: ([])
def wsX4_behind_r1 : List Cond := [Cond.methodLink RX4 23 yX4_kindOfLetter, Cond.static yX4_kindOfLetter, Cond.initialized RX4, Cond.code yX4_kindOfLetter cX4_kindOfLetter 1 (some .int), Cond.methodLink RX4 33 yJ0_indexOf_0f7a4, Cond.instanceMethod yJ0_indexOf_0f7a4, Cond.selects RJ0 yJ0_indexOf_0f7a4 yJ0_indexOf_0f7a4, Cond.initialized RJ0, Cond.code yJ0_indexOf_0f7a4 cJ0_indexOf_0f7a4 2 (some .int), Cond.methodLink RJ0 633 yJ0_indexOf_7cf53, Cond.instanceMethod yJ0_indexOf_7cf53, Cond.selects RJ0 yJ0_indexOf_7cf53 yJ0_indexOf_7cf53, Cond.code yJ0_indexOf_7cf53 cJ0_indexOf_7cf53 3 (some .int), Cond.fieldLink RJ0 9 "java/lang/String" "value" "[B", Cond.methodLink RJ0 492 yJ0_isLatin1_aae02, Cond.instanceMethod yJ0_isLatin1_aae02, Cond.selects RJ0 yJ0_isLatin1_aae02 yJ0_isLatin1_aae02, Cond.code yJ0_isLatin1_aae02 cJ0_isLatin1_aae02 1 (some .boolean), Cond.fieldLink RJ0 38 "java/lang/String" "COMPACT_STRINGS" "Z", Cond.fieldLink RJ0 15 "java/lang/String" "coder" "B", Cond.methodLink RJ0 505 yJ0_length_8abf5, Cond.instanceMethod yJ0_length_8abf5, Cond.selects RJ0 yJ0_length_8abf5 yJ0_length_8abf5, Cond.code yJ0_length_8abf5 cJ0_length_8abf5 1 (some .int)]
def wsX4_behind_r2 : List Cond := [Cond.methodLink RJ0 335 yJ0_coder_7d493, Cond.instanceMethod yJ0_coder_7d493, Cond.selects RJ0 yJ0_coder_7d493 yJ0_coder_7d493, Cond.code yJ0_coder_7d493 cJ0_coder_7d493 1 (some .byte), Cond.methodLink RJ0 637 yJ1_indexOf_4cfef, Cond.static yJ1_indexOf_4cfef, Cond.initialized RJ1, Cond.code yJ1_indexOf_4cfef cJ1_indexOf_4cfef 4 (some .int), Cond.methodLink RJ1 92 Lib.Math.max.name, Cond.static Lib.Math.max.name, Cond.initialized "java/lang/Math", Cond.code Lib.Math.max.name Lib.Math.max.code 2 (some .int), Cond.methodLink RJ1 38 Lib.Math.min.name, Cond.static Lib.Math.min.name, Cond.code Lib.Math.min.name Lib.Math.min.code 2 (some .int), Cond.methodLink RJ1 88 yJ1_canEncode_9a6ad, Cond.static yJ1_canEncode_9a6ad, Cond.code yJ1_canEncode_9a6ad cJ1_canEncode_9a6ad 1 (some .boolean), Cond.methodLink RJ1 95 yJ1_indexOfChar_4cfef, Cond.static yJ1_indexOfChar_4cfef, Cond.code yJ1_indexOfChar_4cfef cJ1_indexOfChar_4cfef 6 (some .int), Cond.methodLink RJ0 640 yJ2_indexOf_4cfef, Cond.static yJ2_indexOf_4cfef, Cond.initialized RJ2]
def wsX4_behind_r3 : List Cond := [Cond.code yJ2_indexOf_4cfef cJ2_indexOf_4cfef 4 (some .int), Cond.methodLink RJ2 224 Lib.Math.max.name, Cond.methodLink RJ2 183 Lib.Math.min.name, Cond.constant RJ2 227 (65536), Cond.methodLink RJ2 228 yJ2_indexOfChar_4cfef, Cond.static yJ2_indexOfChar_4cfef, Cond.code yJ2_indexOfChar_4cfef cJ2_indexOfChar_4cfef 4 (some .int), Cond.methodLink RJ2 96 yJ2_checkBoundsBeginEnd_d044e, Cond.static yJ2_checkBoundsBeginEnd_d044e, Cond.code yJ2_checkBoundsBeginEnd_d044e cJ2_checkBoundsBeginEnd_d044e 3 none, Cond.methodLink RJ2 48 yJ2_length_9d52b, Cond.static yJ2_length_9d52b, Cond.code yJ2_length_9d52b cJ2_length_9d52b 1 (some .int), Cond.methodLink RJ2 241 yJ0_checkBoundsBeginEnd_23922, Cond.static yJ0_checkBoundsBeginEnd_23922, Cond.code yJ0_checkBoundsBeginEnd_23922 cJ0_checkBoundsBeginEnd_23922 3 none, Cond.fieldLink RJ0 1053 "jdk/internal/util/Preconditions" "SIOOBE_FORMATTER" "Ljava/util/function/BiFunction;", Cond.methodLink RJ0 1062 yJ3_checkFromToIndex_8c36e, Cond.static yJ3_checkFromToIndex_8c36e, Cond.initialized RJ3, Cond.code yJ3_checkFromToIndex_8c36e cJ3_checkFromToIndex_8c36e 4 (some .int), Cond.methodLink RJ2 244 yJ2_indexOfCharUnsafe_4cfef, Cond.static yJ2_indexOfCharUnsafe_4cfef, Cond.code yJ2_indexOfCharUnsafe_4cfef cJ2_indexOfCharUnsafe_4cfef 5 (some .int)]
def wsX4_behind_r4 : List Cond := [Cond.methodLink RJ2 71 yJ2_getChar_3b067, Cond.static yJ2_getChar_3b067, Cond.code yJ2_getChar_3b067 cJ2_getChar_3b067 2 (some .char), Cond.fieldLink RJ2 44 "java/lang/StringUTF16" "$assertionsDisabled" "Z", Cond.fieldLink RJ2 59 "java/lang/StringUTF16" "HI_BYTE_SHIFT" "I", Cond.fieldLink RJ2 63 "java/lang/StringUTF16" "LO_BYTE_SHIFT" "I", Cond.methodLink RJ2 232 yJ2_indexOfSupplementary_4cfef, Cond.static yJ2_indexOfSupplementary_4cfef, Cond.code yJ2_indexOfSupplementary_4cfef cJ2_indexOfSupplementary_4cfef 7 (some .int), Cond.methodLink RJ2 164 yJ11_isValidCodePoint_9a6ad, Cond.static yJ11_isValidCodePoint_9a6ad, Cond.initialized RJ11, Cond.code yJ11_isValidCodePoint_9a6ad cJ11_isValidCodePoint_9a6ad 2 (some .boolean), Cond.methodLink RJ2 157 yJ11_highSurrogate_5068e, Cond.static yJ11_highSurrogate_5068e, Cond.code yJ11_highSurrogate_5068e cJ11_highSurrogate_5068e 1 (some .char), Cond.constant RJ11 110 (55232), Cond.methodLink RJ2 161 yJ11_lowSurrogate_5068e, Cond.static yJ11_lowSurrogate_5068e, Cond.code yJ11_lowSurrogate_5068e cJ11_lowSurrogate_5068e 1 (some .char), Cond.constant RJ11 76 (56320), Cond.methodLink RX4 27 yX4_behindMark, Cond.static yX4_behindMark, Cond.code yX4_behindMark cX4_behindMark 2 (some .int)]
def wsX4_behind : List Cond := .code yX4_behind cX4_behind 3 (some .int) :: ((wsX4_behind_r1 ++ (wsX4_behind_r2 ++ (wsX4_behind_r3 ++ wsX4_behind_r4))))
def wsX4_firstFault_r1 : List Cond := [Cond.fieldLink RX4 15 "CowsOwed$Page" "size" "I", Cond.fieldLink RX4 9 "CowsOwed$Page" "codes" "[I", Cond.methodLink RX4 19 yX4_behind, Cond.static yX4_behind, Cond.initialized RX4, Cond.code yX4_behind cX4_behind 3 (some .int), Cond.methodLink RX4 23 yX4_kindOfLetter, Cond.static yX4_kindOfLetter, Cond.code yX4_kindOfLetter cX4_kindOfLetter 1 (some .int), Cond.methodLink RX4 33 yJ0_indexOf_0f7a4, Cond.instanceMethod yJ0_indexOf_0f7a4, Cond.selects RJ0 yJ0_indexOf_0f7a4 yJ0_indexOf_0f7a4, Cond.initialized RJ0, Cond.code yJ0_indexOf_0f7a4 cJ0_indexOf_0f7a4 2 (some .int), Cond.methodLink RJ0 633 yJ0_indexOf_7cf53, Cond.instanceMethod yJ0_indexOf_7cf53, Cond.selects RJ0 yJ0_indexOf_7cf53 yJ0_indexOf_7cf53, Cond.code yJ0_indexOf_7cf53 cJ0_indexOf_7cf53 3 (some .int), Cond.fieldLink RJ0 9 "java/lang/String" "value" "[B", Cond.methodLink RJ0 492 yJ0_isLatin1_aae02, Cond.instanceMethod yJ0_isLatin1_aae02, Cond.selects RJ0 yJ0_isLatin1_aae02 yJ0_isLatin1_aae02, Cond.code yJ0_isLatin1_aae02 cJ0_isLatin1_aae02 1 (some .boolean), Cond.fieldLink RJ0 38 "java/lang/String" "COMPACT_STRINGS" "Z"]
def wsX4_firstFault_r2 : List Cond := [Cond.fieldLink RJ0 15 "java/lang/String" "coder" "B", Cond.methodLink RJ0 505 yJ0_length_8abf5, Cond.instanceMethod yJ0_length_8abf5, Cond.selects RJ0 yJ0_length_8abf5 yJ0_length_8abf5, Cond.code yJ0_length_8abf5 cJ0_length_8abf5 1 (some .int), Cond.methodLink RJ0 335 yJ0_coder_7d493, Cond.instanceMethod yJ0_coder_7d493, Cond.selects RJ0 yJ0_coder_7d493 yJ0_coder_7d493, Cond.code yJ0_coder_7d493 cJ0_coder_7d493 1 (some .byte), Cond.methodLink RJ0 637 yJ1_indexOf_4cfef, Cond.static yJ1_indexOf_4cfef, Cond.initialized RJ1, Cond.code yJ1_indexOf_4cfef cJ1_indexOf_4cfef 4 (some .int), Cond.methodLink RJ1 92 Lib.Math.max.name, Cond.static Lib.Math.max.name, Cond.initialized "java/lang/Math", Cond.code Lib.Math.max.name Lib.Math.max.code 2 (some .int), Cond.methodLink RJ1 38 Lib.Math.min.name, Cond.static Lib.Math.min.name, Cond.code Lib.Math.min.name Lib.Math.min.code 2 (some .int), Cond.methodLink RJ1 88 yJ1_canEncode_9a6ad, Cond.static yJ1_canEncode_9a6ad, Cond.code yJ1_canEncode_9a6ad cJ1_canEncode_9a6ad 1 (some .boolean), Cond.methodLink RJ1 95 yJ1_indexOfChar_4cfef]
def wsX4_firstFault_r3 : List Cond := [Cond.static yJ1_indexOfChar_4cfef, Cond.code yJ1_indexOfChar_4cfef cJ1_indexOfChar_4cfef 6 (some .int), Cond.methodLink RJ0 640 yJ2_indexOf_4cfef, Cond.static yJ2_indexOf_4cfef, Cond.initialized RJ2, Cond.code yJ2_indexOf_4cfef cJ2_indexOf_4cfef 4 (some .int), Cond.methodLink RJ2 224 Lib.Math.max.name, Cond.methodLink RJ2 183 Lib.Math.min.name, Cond.constant RJ2 227 (65536), Cond.methodLink RJ2 228 yJ2_indexOfChar_4cfef, Cond.static yJ2_indexOfChar_4cfef, Cond.code yJ2_indexOfChar_4cfef cJ2_indexOfChar_4cfef 4 (some .int), Cond.methodLink RJ2 96 yJ2_checkBoundsBeginEnd_d044e, Cond.static yJ2_checkBoundsBeginEnd_d044e, Cond.code yJ2_checkBoundsBeginEnd_d044e cJ2_checkBoundsBeginEnd_d044e 3 none, Cond.methodLink RJ2 48 yJ2_length_9d52b, Cond.static yJ2_length_9d52b, Cond.code yJ2_length_9d52b cJ2_length_9d52b 1 (some .int), Cond.methodLink RJ2 241 yJ0_checkBoundsBeginEnd_23922, Cond.static yJ0_checkBoundsBeginEnd_23922, Cond.code yJ0_checkBoundsBeginEnd_23922 cJ0_checkBoundsBeginEnd_23922 3 none, Cond.fieldLink RJ0 1053 "jdk/internal/util/Preconditions" "SIOOBE_FORMATTER" "Ljava/util/function/BiFunction;", Cond.methodLink RJ0 1062 yJ3_checkFromToIndex_8c36e, Cond.static yJ3_checkFromToIndex_8c36e]
def wsX4_firstFault_r4 : List Cond := [Cond.initialized RJ3, Cond.code yJ3_checkFromToIndex_8c36e cJ3_checkFromToIndex_8c36e 4 (some .int), Cond.methodLink RJ2 244 yJ2_indexOfCharUnsafe_4cfef, Cond.static yJ2_indexOfCharUnsafe_4cfef, Cond.code yJ2_indexOfCharUnsafe_4cfef cJ2_indexOfCharUnsafe_4cfef 5 (some .int), Cond.methodLink RJ2 71 yJ2_getChar_3b067, Cond.static yJ2_getChar_3b067, Cond.code yJ2_getChar_3b067 cJ2_getChar_3b067 2 (some .char), Cond.fieldLink RJ2 44 "java/lang/StringUTF16" "$assertionsDisabled" "Z", Cond.fieldLink RJ2 59 "java/lang/StringUTF16" "HI_BYTE_SHIFT" "I", Cond.fieldLink RJ2 63 "java/lang/StringUTF16" "LO_BYTE_SHIFT" "I", Cond.methodLink RJ2 232 yJ2_indexOfSupplementary_4cfef, Cond.static yJ2_indexOfSupplementary_4cfef, Cond.code yJ2_indexOfSupplementary_4cfef cJ2_indexOfSupplementary_4cfef 7 (some .int), Cond.methodLink RJ2 164 yJ11_isValidCodePoint_9a6ad, Cond.static yJ11_isValidCodePoint_9a6ad, Cond.initialized RJ11, Cond.code yJ11_isValidCodePoint_9a6ad cJ11_isValidCodePoint_9a6ad 2 (some .boolean), Cond.methodLink RJ2 157 yJ11_highSurrogate_5068e, Cond.static yJ11_highSurrogate_5068e, Cond.code yJ11_highSurrogate_5068e cJ11_highSurrogate_5068e 1 (some .char), Cond.constant RJ11 110 (55232), Cond.methodLink RJ2 161 yJ11_lowSurrogate_5068e, Cond.static yJ11_lowSurrogate_5068e]
def wsX4_firstFault_r5 : List Cond := [Cond.code yJ11_lowSurrogate_5068e cJ11_lowSurrogate_5068e 1 (some .char), Cond.constant RJ11 76 (56320), Cond.methodLink RX4 27 yX4_behindMark, Cond.static yX4_behindMark, Cond.code yX4_behindMark cX4_behindMark 2 (some .int)]
def wsX4_firstFault : List Cond := .code yX4_firstFault cX4_firstFault 3 (some .int) :: ((wsX4_firstFault_r1 ++ (wsX4_firstFault_r2 ++ (wsX4_firstFault_r3 ++ (wsX4_firstFault_r4 ++ wsX4_firstFault_r5)))) ++ wsX40)
def wsX4_isHills_r1 : List Cond := [Cond.fieldLink RX4 15 "CowsOwed$Page" "size" "I", Cond.fieldLink RX4 9 "CowsOwed$Page" "codes" "[I", Cond.methodLink RX4 38 yX4_firstFault, Cond.instanceMethod yX4_firstFault, Cond.selects RX4 yX4_firstFault yX4_firstFault, Cond.initialized RX4, Cond.code yX4_firstFault cX4_firstFault 3 (some .int), Cond.methodLink RX4 19 yX4_behind, Cond.static yX4_behind, Cond.code yX4_behind cX4_behind 3 (some .int), Cond.methodLink RX4 23 yX4_kindOfLetter, Cond.static yX4_kindOfLetter, Cond.code yX4_kindOfLetter cX4_kindOfLetter 1 (some .int), Cond.methodLink RX4 33 yJ0_indexOf_0f7a4, Cond.instanceMethod yJ0_indexOf_0f7a4, Cond.selects RJ0 yJ0_indexOf_0f7a4 yJ0_indexOf_0f7a4, Cond.initialized RJ0, Cond.code yJ0_indexOf_0f7a4 cJ0_indexOf_0f7a4 2 (some .int), Cond.methodLink RJ0 633 yJ0_indexOf_7cf53, Cond.instanceMethod yJ0_indexOf_7cf53, Cond.selects RJ0 yJ0_indexOf_7cf53 yJ0_indexOf_7cf53, Cond.code yJ0_indexOf_7cf53 cJ0_indexOf_7cf53 3 (some .int), Cond.fieldLink RJ0 9 "java/lang/String" "value" "[B", Cond.methodLink RJ0 492 yJ0_isLatin1_aae02]
def wsX4_isHills_r2 : List Cond := [Cond.instanceMethod yJ0_isLatin1_aae02, Cond.selects RJ0 yJ0_isLatin1_aae02 yJ0_isLatin1_aae02, Cond.code yJ0_isLatin1_aae02 cJ0_isLatin1_aae02 1 (some .boolean), Cond.fieldLink RJ0 38 "java/lang/String" "COMPACT_STRINGS" "Z", Cond.fieldLink RJ0 15 "java/lang/String" "coder" "B", Cond.methodLink RJ0 505 yJ0_length_8abf5, Cond.instanceMethod yJ0_length_8abf5, Cond.selects RJ0 yJ0_length_8abf5 yJ0_length_8abf5, Cond.code yJ0_length_8abf5 cJ0_length_8abf5 1 (some .int), Cond.methodLink RJ0 335 yJ0_coder_7d493, Cond.instanceMethod yJ0_coder_7d493, Cond.selects RJ0 yJ0_coder_7d493 yJ0_coder_7d493, Cond.code yJ0_coder_7d493 cJ0_coder_7d493 1 (some .byte), Cond.methodLink RJ0 637 yJ1_indexOf_4cfef, Cond.static yJ1_indexOf_4cfef, Cond.initialized RJ1, Cond.code yJ1_indexOf_4cfef cJ1_indexOf_4cfef 4 (some .int), Cond.methodLink RJ1 92 Lib.Math.max.name, Cond.static Lib.Math.max.name, Cond.initialized "java/lang/Math", Cond.code Lib.Math.max.name Lib.Math.max.code 2 (some .int), Cond.methodLink RJ1 38 Lib.Math.min.name, Cond.static Lib.Math.min.name, Cond.code Lib.Math.min.name Lib.Math.min.code 2 (some .int)]
def wsX4_isHills_r3 : List Cond := [Cond.methodLink RJ1 88 yJ1_canEncode_9a6ad, Cond.static yJ1_canEncode_9a6ad, Cond.code yJ1_canEncode_9a6ad cJ1_canEncode_9a6ad 1 (some .boolean), Cond.methodLink RJ1 95 yJ1_indexOfChar_4cfef, Cond.static yJ1_indexOfChar_4cfef, Cond.code yJ1_indexOfChar_4cfef cJ1_indexOfChar_4cfef 6 (some .int), Cond.methodLink RJ0 640 yJ2_indexOf_4cfef, Cond.static yJ2_indexOf_4cfef, Cond.initialized RJ2, Cond.code yJ2_indexOf_4cfef cJ2_indexOf_4cfef 4 (some .int), Cond.methodLink RJ2 224 Lib.Math.max.name, Cond.methodLink RJ2 183 Lib.Math.min.name, Cond.constant RJ2 227 (65536), Cond.methodLink RJ2 228 yJ2_indexOfChar_4cfef, Cond.static yJ2_indexOfChar_4cfef, Cond.code yJ2_indexOfChar_4cfef cJ2_indexOfChar_4cfef 4 (some .int), Cond.methodLink RJ2 96 yJ2_checkBoundsBeginEnd_d044e, Cond.static yJ2_checkBoundsBeginEnd_d044e, Cond.code yJ2_checkBoundsBeginEnd_d044e cJ2_checkBoundsBeginEnd_d044e 3 none, Cond.methodLink RJ2 48 yJ2_length_9d52b, Cond.static yJ2_length_9d52b, Cond.code yJ2_length_9d52b cJ2_length_9d52b 1 (some .int), Cond.methodLink RJ2 241 yJ0_checkBoundsBeginEnd_23922, Cond.static yJ0_checkBoundsBeginEnd_23922]
def wsX4_isHills_r4 : List Cond := [Cond.code yJ0_checkBoundsBeginEnd_23922 cJ0_checkBoundsBeginEnd_23922 3 none, Cond.fieldLink RJ0 1053 "jdk/internal/util/Preconditions" "SIOOBE_FORMATTER" "Ljava/util/function/BiFunction;", Cond.methodLink RJ0 1062 yJ3_checkFromToIndex_8c36e, Cond.static yJ3_checkFromToIndex_8c36e, Cond.initialized RJ3, Cond.code yJ3_checkFromToIndex_8c36e cJ3_checkFromToIndex_8c36e 4 (some .int), Cond.methodLink RJ2 244 yJ2_indexOfCharUnsafe_4cfef, Cond.static yJ2_indexOfCharUnsafe_4cfef, Cond.code yJ2_indexOfCharUnsafe_4cfef cJ2_indexOfCharUnsafe_4cfef 5 (some .int), Cond.methodLink RJ2 71 yJ2_getChar_3b067, Cond.static yJ2_getChar_3b067, Cond.code yJ2_getChar_3b067 cJ2_getChar_3b067 2 (some .char), Cond.fieldLink RJ2 44 "java/lang/StringUTF16" "$assertionsDisabled" "Z", Cond.fieldLink RJ2 59 "java/lang/StringUTF16" "HI_BYTE_SHIFT" "I", Cond.fieldLink RJ2 63 "java/lang/StringUTF16" "LO_BYTE_SHIFT" "I", Cond.methodLink RJ2 232 yJ2_indexOfSupplementary_4cfef, Cond.static yJ2_indexOfSupplementary_4cfef, Cond.code yJ2_indexOfSupplementary_4cfef cJ2_indexOfSupplementary_4cfef 7 (some .int), Cond.methodLink RJ2 164 yJ11_isValidCodePoint_9a6ad, Cond.static yJ11_isValidCodePoint_9a6ad, Cond.initialized RJ11, Cond.code yJ11_isValidCodePoint_9a6ad cJ11_isValidCodePoint_9a6ad 2 (some .boolean), Cond.methodLink RJ2 157 yJ11_highSurrogate_5068e, Cond.static yJ11_highSurrogate_5068e]
def wsX4_isHills_r5 : List Cond := [Cond.code yJ11_highSurrogate_5068e cJ11_highSurrogate_5068e 1 (some .char), Cond.constant RJ11 110 (55232), Cond.methodLink RJ2 161 yJ11_lowSurrogate_5068e, Cond.static yJ11_lowSurrogate_5068e, Cond.code yJ11_lowSurrogate_5068e cJ11_lowSurrogate_5068e 1 (some .char), Cond.constant RJ11 76 (56320), Cond.methodLink RX4 27 yX4_behindMark, Cond.static yX4_behindMark, Cond.code yX4_behindMark cX4_behindMark 2 (some .int)]
def wsX4_isHills : List Cond := .code yX4_isHills cX4_isHills 1 (some .boolean) :: ((wsX4_isHills_r1 ++ (wsX4_isHills_r2 ++ (wsX4_isHills_r3 ++ (wsX4_isHills_r4 ++ wsX4_isHills_r5)))) ++ wsX40)
def wsX4_clanCount : List Cond := .code yX4_clanCount cX4_clanCount 1 (some .int) :: ([.fieldLink RX4 15 "CowsOwed$Page" "size" "I"] ++ wsX40)
def wsX4_kindOf_r1 : List Cond := [Cond.fieldLink RX4 9 "CowsOwed$Page" "codes" "[I", Cond.methodLink RX4 23 yX4_kindOfLetter, Cond.static yX4_kindOfLetter, Cond.initialized RX4, Cond.code yX4_kindOfLetter cX4_kindOfLetter 1 (some .int), Cond.methodLink RX4 33 yJ0_indexOf_0f7a4, Cond.instanceMethod yJ0_indexOf_0f7a4, Cond.selects RJ0 yJ0_indexOf_0f7a4 yJ0_indexOf_0f7a4, Cond.initialized RJ0, Cond.code yJ0_indexOf_0f7a4 cJ0_indexOf_0f7a4 2 (some .int), Cond.methodLink RJ0 633 yJ0_indexOf_7cf53, Cond.instanceMethod yJ0_indexOf_7cf53, Cond.selects RJ0 yJ0_indexOf_7cf53 yJ0_indexOf_7cf53, Cond.code yJ0_indexOf_7cf53 cJ0_indexOf_7cf53 3 (some .int), Cond.fieldLink RJ0 9 "java/lang/String" "value" "[B", Cond.methodLink RJ0 492 yJ0_isLatin1_aae02, Cond.instanceMethod yJ0_isLatin1_aae02, Cond.selects RJ0 yJ0_isLatin1_aae02 yJ0_isLatin1_aae02, Cond.code yJ0_isLatin1_aae02 cJ0_isLatin1_aae02 1 (some .boolean), Cond.fieldLink RJ0 38 "java/lang/String" "COMPACT_STRINGS" "Z", Cond.fieldLink RJ0 15 "java/lang/String" "coder" "B", Cond.methodLink RJ0 505 yJ0_length_8abf5, Cond.instanceMethod yJ0_length_8abf5, Cond.selects RJ0 yJ0_length_8abf5 yJ0_length_8abf5]
def wsX4_kindOf_r2 : List Cond := [Cond.code yJ0_length_8abf5 cJ0_length_8abf5 1 (some .int), Cond.methodLink RJ0 335 yJ0_coder_7d493, Cond.instanceMethod yJ0_coder_7d493, Cond.selects RJ0 yJ0_coder_7d493 yJ0_coder_7d493, Cond.code yJ0_coder_7d493 cJ0_coder_7d493 1 (some .byte), Cond.methodLink RJ0 637 yJ1_indexOf_4cfef, Cond.static yJ1_indexOf_4cfef, Cond.initialized RJ1, Cond.code yJ1_indexOf_4cfef cJ1_indexOf_4cfef 4 (some .int), Cond.methodLink RJ1 92 Lib.Math.max.name, Cond.static Lib.Math.max.name, Cond.initialized "java/lang/Math", Cond.code Lib.Math.max.name Lib.Math.max.code 2 (some .int), Cond.methodLink RJ1 38 Lib.Math.min.name, Cond.static Lib.Math.min.name, Cond.code Lib.Math.min.name Lib.Math.min.code 2 (some .int), Cond.methodLink RJ1 88 yJ1_canEncode_9a6ad, Cond.static yJ1_canEncode_9a6ad, Cond.code yJ1_canEncode_9a6ad cJ1_canEncode_9a6ad 1 (some .boolean), Cond.methodLink RJ1 95 yJ1_indexOfChar_4cfef, Cond.static yJ1_indexOfChar_4cfef, Cond.code yJ1_indexOfChar_4cfef cJ1_indexOfChar_4cfef 6 (some .int), Cond.methodLink RJ0 640 yJ2_indexOf_4cfef, Cond.static yJ2_indexOf_4cfef]
def wsX4_kindOf_r3 : List Cond := [Cond.initialized RJ2, Cond.code yJ2_indexOf_4cfef cJ2_indexOf_4cfef 4 (some .int), Cond.methodLink RJ2 224 Lib.Math.max.name, Cond.methodLink RJ2 183 Lib.Math.min.name, Cond.constant RJ2 227 (65536), Cond.methodLink RJ2 228 yJ2_indexOfChar_4cfef, Cond.static yJ2_indexOfChar_4cfef, Cond.code yJ2_indexOfChar_4cfef cJ2_indexOfChar_4cfef 4 (some .int), Cond.methodLink RJ2 96 yJ2_checkBoundsBeginEnd_d044e, Cond.static yJ2_checkBoundsBeginEnd_d044e, Cond.code yJ2_checkBoundsBeginEnd_d044e cJ2_checkBoundsBeginEnd_d044e 3 none, Cond.methodLink RJ2 48 yJ2_length_9d52b, Cond.static yJ2_length_9d52b, Cond.code yJ2_length_9d52b cJ2_length_9d52b 1 (some .int), Cond.methodLink RJ2 241 yJ0_checkBoundsBeginEnd_23922, Cond.static yJ0_checkBoundsBeginEnd_23922, Cond.code yJ0_checkBoundsBeginEnd_23922 cJ0_checkBoundsBeginEnd_23922 3 none, Cond.fieldLink RJ0 1053 "jdk/internal/util/Preconditions" "SIOOBE_FORMATTER" "Ljava/util/function/BiFunction;", Cond.methodLink RJ0 1062 yJ3_checkFromToIndex_8c36e, Cond.static yJ3_checkFromToIndex_8c36e, Cond.initialized RJ3, Cond.code yJ3_checkFromToIndex_8c36e cJ3_checkFromToIndex_8c36e 4 (some .int), Cond.methodLink RJ2 244 yJ2_indexOfCharUnsafe_4cfef, Cond.static yJ2_indexOfCharUnsafe_4cfef]
def wsX4_kindOf_r4 : List Cond := [Cond.code yJ2_indexOfCharUnsafe_4cfef cJ2_indexOfCharUnsafe_4cfef 5 (some .int), Cond.methodLink RJ2 71 yJ2_getChar_3b067, Cond.static yJ2_getChar_3b067, Cond.code yJ2_getChar_3b067 cJ2_getChar_3b067 2 (some .char), Cond.fieldLink RJ2 44 "java/lang/StringUTF16" "$assertionsDisabled" "Z", Cond.fieldLink RJ2 59 "java/lang/StringUTF16" "HI_BYTE_SHIFT" "I", Cond.fieldLink RJ2 63 "java/lang/StringUTF16" "LO_BYTE_SHIFT" "I", Cond.methodLink RJ2 232 yJ2_indexOfSupplementary_4cfef, Cond.static yJ2_indexOfSupplementary_4cfef, Cond.code yJ2_indexOfSupplementary_4cfef cJ2_indexOfSupplementary_4cfef 7 (some .int), Cond.methodLink RJ2 164 yJ11_isValidCodePoint_9a6ad, Cond.static yJ11_isValidCodePoint_9a6ad, Cond.initialized RJ11, Cond.code yJ11_isValidCodePoint_9a6ad cJ11_isValidCodePoint_9a6ad 2 (some .boolean), Cond.methodLink RJ2 157 yJ11_highSurrogate_5068e, Cond.static yJ11_highSurrogate_5068e, Cond.code yJ11_highSurrogate_5068e cJ11_highSurrogate_5068e 1 (some .char), Cond.constant RJ11 110 (55232), Cond.methodLink RJ2 161 yJ11_lowSurrogate_5068e, Cond.static yJ11_lowSurrogate_5068e, Cond.code yJ11_lowSurrogate_5068e cJ11_lowSurrogate_5068e 1 (some .char), Cond.constant RJ11 76 (56320)]
def wsX4_kindOf : List Cond := .code yX4_kindOf cX4_kindOf 2 (some .int) :: ((wsX4_kindOf_r1 ++ (wsX4_kindOf_r2 ++ (wsX4_kindOf_r3 ++ wsX4_kindOf_r4))) ++ wsX40)
def wsX4_herdOf : List Cond := .code yX4_herdOf cX4_herdOf 2 (some .int) :: ([.fieldLink RX4 9 "CowsOwed$Page" "codes" "[I"] ++ wsX40)
def wsX4_rateDigit : List Cond := .code yX4_rateDigit cX4_rateDigit 1 (some .int) :: ([.fieldLink RX4 15 "CowsOwed$Page" "size" "I", .fieldLink RX4 9 "CowsOwed$Page" "codes" "[I"] ++ wsX40)
def wsX5_init : List Cond := .code yX5_init cX5_init 1 none :: ([.methodLink RX5 3 objectInit, .instanceMethod objectInit, .code objectInit ⟨#[0xb1]⟩ 1 none, .arrayClass .int, .fieldLink RX5 9 "CowsOwed$Plans" "his" "[I", .fieldLink RX5 15 "CowsOwed$Plans" "hers" "[I", .fieldLink RX5 18 "CowsOwed$Plans" "tried" "[I", .fieldLink RX5 21 "CowsOwed$Plans" "best" "[I", .fieldLink RX5 24 "CowsOwed$Plans" "size" "I", .fieldLink RX5 28 "CowsOwed$Plans" "leastOwed" "I"] ++ wsX50)
def wsX5_note : List Cond := .code yX5_note cX5_note 3 (some .int) :: ([.fieldLink RX5 9 "CowsOwed$Plans" "his" "[I", .fieldLink RX5 24 "CowsOwed$Plans" "size" "I", .fieldLink RX5 15 "CowsOwed$Plans" "hers" "[I"] ++ wsX50)
def wsX5_copyFrom : List Cond := .code yX5_copyFrom cX5_copyFrom 3 none :: ([.fieldLink RX5 24 "CowsOwed$Plans" "size" "I", .fieldLink RX5 9 "CowsOwed$Plans" "his" "[I", .fieldLink RX5 15 "CowsOwed$Plans" "hers" "[I"] ++ wsX50)
def wsX5_startOrders : List Cond := .code yX5_startOrders cX5_startOrders 2 none :: ([.fieldLink RX5 18 "CowsOwed$Plans" "tried" "[I"] ++ wsX50)
def wsX5_marryInOrder_r1 : List Cond := [Cond.fieldLink RX5 24 "CowsOwed$Plans" "size" "I", Cond.fieldLink RX5 18 "CowsOwed$Plans" "tried" "[I", Cond.fieldLink RX5 9 "CowsOwed$Plans" "his" "[I", Cond.fieldLink RX5 15 "CowsOwed$Plans" "hers" "[I", Cond.methodLink RX5 57 yX2_marry, Cond.instanceMethod yX2_marry, Cond.selects RX2 yX2_marry yX2_marry, Cond.initialized RX2, Cond.code yX2_marry cX2_marry 4 (some .int), Cond.fieldLink RX2 27 "CowsOwed$Herds" "clans" "[LCowsOwed$Clan;", Cond.fieldLink RX2 24 "CowsOwed$Herds" "price" "I", Cond.methodLink RX2 35 ⟨"CowsOwed$Clan", "asks", "(I)I"⟩, Cond.sameMethod "CowsOwed$Clan" "CowsOwed$Clan" "asks" "(I)I", Cond.selects RX0 ⟨"CowsOwed$Clan", "asks", "(I)I"⟩ yX1_asks, Cond.instanceMethod yX1_asks, Cond.initialized RX1, Cond.code yX1_asks cX1_asks 2 (some .int), Cond.methodLink RX2 35 yX1_asks, Cond.selects RX1 yX1_asks yX1_asks, Cond.instanceMethod ⟨"CowsOwed$Clan", "asks", "(I)I"⟩, Cond.selects RX3 ⟨"CowsOwed$Clan", "asks", "(I)I"⟩ yX3_asks, Cond.instanceMethod yX3_asks, Cond.initialized RX3, Cond.code yX3_asks cX3_asks 2 (some .int)]
def wsX5_marryInOrder_r2 : List Cond := [Cond.methodLink RX3 9 yX7_asks, Cond.sameMethod "CowsOwed$Proud" "CowsOwed$Proud" "asks" "(I)I", Cond.superclass RX3 RX7, Cond.instanceMethod yX7_asks, Cond.initialized RX7, Cond.code yX7_asks cX7_asks 2 (some .int), Cond.selects RX6 ⟨"CowsOwed$Clan", "asks", "(I)I"⟩ yX6_asks, Cond.instanceMethod yX6_asks, Cond.initialized RX6, Cond.code yX6_asks cX6_asks 2 (some .int), Cond.methodLink RX6 9 Lib.Math.max.name, Cond.static Lib.Math.max.name, Cond.initialized "java/lang/Math", Cond.code Lib.Math.max.name Lib.Math.max.code 2 (some .int), Cond.selects RX7 ⟨"CowsOwed$Clan", "asks", "(I)I"⟩ yX7_asks, Cond.methodLink RX2 44 yX2_pay, Cond.instanceMethod yX2_pay, Cond.selects RX2 yX2_pay yX2_pay, Cond.code yX2_pay cX2_pay 5 (some .int), Cond.fieldLink RX2 9 "CowsOwed$Herds" "cows" "[I", Cond.methodLink RX2 48 Lib.Math.min.name, Cond.static Lib.Math.min.name, Cond.code Lib.Math.min.name Lib.Math.min.code 2 (some .int), Cond.fieldLink RX2 17 "CowsOwed$Herds" "debts" "[[I"]
def wsX5_marryInOrder_r3 : List Cond := [Cond.methodLink RX2 41 ⟨"CowsOwed$Clan", "spares", "(I)I"⟩, Cond.sameMethod "CowsOwed$Clan" "CowsOwed$Clan" "spares" "(I)I", Cond.instanceMethod ⟨"CowsOwed$Clan", "spares", "(I)I"⟩, Cond.selects RX0 ⟨"CowsOwed$Clan", "spares", "(I)I"⟩ yX0_spares, Cond.instanceMethod yX0_spares, Cond.initialized RX0, Cond.code yX0_spares cX0_spares 2 (some .int), Cond.code yX1_spares cX1_spares 2 (some .int), Cond.methodLink RX2 41 yX1_spares, Cond.instanceMethod yX1_spares, Cond.selects RX1 yX1_spares yX1_spares, Cond.selects RX3 ⟨"CowsOwed$Clan", "spares", "(I)I"⟩ yX1_spares, Cond.selects RX6 ⟨"CowsOwed$Clan", "spares", "(I)I"⟩ yX1_spares, Cond.selects RX7 ⟨"CowsOwed$Clan", "spares", "(I)I"⟩ yX1_spares]
def wsX5_marryInOrder : List Cond := .code yX5_marryInOrder cX5_marryInOrder 4 none :: ((wsX5_marryInOrder_r1 ++ (wsX5_marryInOrder_r2 ++ wsX5_marryInOrder_r3)) ++ wsX50 ++ wsX20)
def wsX5_swapTried : List Cond := .code yX5_swapTried cX5_swapTried 4 none :: ([.fieldLink RX5 18 "CowsOwed$Plans" "tried" "[I"] ++ wsX50)
def wsX5_nextOrder : List Cond := .code yX5_nextOrder cX5_nextOrder 5 (some .boolean) :: ([.fieldLink RX5 24 "CowsOwed$Plans" "size" "I", .fieldLink RX5 18 "CowsOwed$Plans" "tried" "[I", .methodLink RX5 61 yX5_swapTried, .instanceMethod yX5_swapTried, .selects RX5 yX5_swapTried yX5_swapTried, .initialized RX5, .code yX5_swapTried cX5_swapTried 4 none] ++ wsX50)
def wsX5_findOrder_r1 : List Cond := [Cond.fieldLink RX5 28 "CowsOwed$Plans" "leastOwed" "I", Cond.fieldLink RX5 18 "CowsOwed$Plans" "tried" "[I", Cond.fieldLink RX5 21 "CowsOwed$Plans" "best" "[I", Cond.methodLink RX5 47 arraycopyName, Cond.native arraycopyName, Cond.static arraycopyName, Cond.initialized "java/lang/System", Cond.methodLink RX5 31 yX5_startOrders, Cond.instanceMethod yX5_startOrders, Cond.selects RX5 yX5_startOrders yX5_startOrders, Cond.initialized RX5, Cond.code yX5_startOrders cX5_startOrders 2 none, Cond.methodLink RX5 34 yX2_copyFrom, Cond.instanceMethod yX2_copyFrom, Cond.selects RX2 yX2_copyFrom yX2_copyFrom, Cond.initialized RX2, Cond.code yX2_copyFrom cX2_copyFrom 4 none, Cond.fieldLink RX2 20 "CowsOwed$Herds" "size" "I", Cond.fieldLink RX2 24 "CowsOwed$Herds" "price" "I", Cond.fieldLink RX2 9 "CowsOwed$Herds" "cows" "[I", Cond.fieldLink RX2 17 "CowsOwed$Herds" "debts" "[[I", Cond.methodLink RX5 40 yX5_marryInOrder, Cond.instanceMethod yX5_marryInOrder, Cond.selects RX5 yX5_marryInOrder yX5_marryInOrder]
def wsX5_findOrder_r2 : List Cond := [Cond.code yX5_marryInOrder cX5_marryInOrder 4 none, Cond.fieldLink RX5 24 "CowsOwed$Plans" "size" "I", Cond.fieldLink RX5 9 "CowsOwed$Plans" "his" "[I", Cond.fieldLink RX5 15 "CowsOwed$Plans" "hers" "[I", Cond.methodLink RX5 57 yX2_marry, Cond.instanceMethod yX2_marry, Cond.selects RX2 yX2_marry yX2_marry, Cond.code yX2_marry cX2_marry 4 (some .int), Cond.fieldLink RX2 27 "CowsOwed$Herds" "clans" "[LCowsOwed$Clan;", Cond.methodLink RX2 35 ⟨"CowsOwed$Clan", "asks", "(I)I"⟩, Cond.sameMethod "CowsOwed$Clan" "CowsOwed$Clan" "asks" "(I)I", Cond.selects RX0 ⟨"CowsOwed$Clan", "asks", "(I)I"⟩ yX1_asks, Cond.instanceMethod yX1_asks, Cond.initialized RX1, Cond.code yX1_asks cX1_asks 2 (some .int), Cond.methodLink RX2 35 yX1_asks, Cond.selects RX1 yX1_asks yX1_asks, Cond.instanceMethod ⟨"CowsOwed$Clan", "asks", "(I)I"⟩, Cond.selects RX3 ⟨"CowsOwed$Clan", "asks", "(I)I"⟩ yX3_asks, Cond.instanceMethod yX3_asks, Cond.initialized RX3, Cond.code yX3_asks cX3_asks 2 (some .int), Cond.methodLink RX3 9 yX7_asks, Cond.sameMethod "CowsOwed$Proud" "CowsOwed$Proud" "asks" "(I)I"]
def wsX5_findOrder_r3 : List Cond := [Cond.superclass RX3 RX7, Cond.instanceMethod yX7_asks, Cond.initialized RX7, Cond.code yX7_asks cX7_asks 2 (some .int), Cond.selects RX6 ⟨"CowsOwed$Clan", "asks", "(I)I"⟩ yX6_asks, Cond.instanceMethod yX6_asks, Cond.initialized RX6, Cond.code yX6_asks cX6_asks 2 (some .int), Cond.methodLink RX6 9 Lib.Math.max.name, Cond.static Lib.Math.max.name, Cond.initialized "java/lang/Math", Cond.code Lib.Math.max.name Lib.Math.max.code 2 (some .int), Cond.selects RX7 ⟨"CowsOwed$Clan", "asks", "(I)I"⟩ yX7_asks, Cond.methodLink RX2 44 yX2_pay, Cond.instanceMethod yX2_pay, Cond.selects RX2 yX2_pay yX2_pay, Cond.code yX2_pay cX2_pay 5 (some .int), Cond.methodLink RX2 48 Lib.Math.min.name, Cond.static Lib.Math.min.name, Cond.code Lib.Math.min.name Lib.Math.min.code 2 (some .int), Cond.methodLink RX2 41 ⟨"CowsOwed$Clan", "spares", "(I)I"⟩, Cond.sameMethod "CowsOwed$Clan" "CowsOwed$Clan" "spares" "(I)I", Cond.instanceMethod ⟨"CowsOwed$Clan", "spares", "(I)I"⟩, Cond.selects RX0 ⟨"CowsOwed$Clan", "spares", "(I)I"⟩ yX0_spares]
def wsX5_findOrder_r4 : List Cond := [Cond.instanceMethod yX0_spares, Cond.initialized RX0, Cond.code yX0_spares cX0_spares 2 (some .int), Cond.code yX1_spares cX1_spares 2 (some .int), Cond.methodLink RX2 41 yX1_spares, Cond.instanceMethod yX1_spares, Cond.selects RX1 yX1_spares yX1_spares, Cond.selects RX3 ⟨"CowsOwed$Clan", "spares", "(I)I"⟩ yX1_spares, Cond.selects RX6 ⟨"CowsOwed$Clan", "spares", "(I)I"⟩ yX1_spares, Cond.selects RX7 ⟨"CowsOwed$Clan", "spares", "(I)I"⟩ yX1_spares, Cond.methodLink RX5 43 yX2_allOwed, Cond.instanceMethod yX2_allOwed, Cond.selects RX2 yX2_allOwed yX2_allOwed, Cond.code yX2_allOwed cX2_allOwed 3 (some .int), Cond.methodLink RX2 64 yX2_owedBy, Cond.instanceMethod yX2_owedBy, Cond.selects RX2 yX2_owedBy yX2_owedBy, Cond.code yX2_owedBy cX2_owedBy 4 (some .int), Cond.methodLink RX5 53 yX5_nextOrder, Cond.instanceMethod yX5_nextOrder, Cond.selects RX5 yX5_nextOrder yX5_nextOrder, Cond.code yX5_nextOrder cX5_nextOrder 5 (some .boolean), Cond.methodLink RX5 61 yX5_swapTried, Cond.instanceMethod yX5_swapTried]
def wsX5_findOrder_r5 : List Cond := [Cond.selects RX5 yX5_swapTried yX5_swapTried, Cond.code yX5_swapTried cX5_swapTried 4 none]
def wsX5_findOrder : List Cond := .code yX5_findOrder cX5_findOrder 6 none :: ((wsX5_findOrder_r1 ++ (wsX5_findOrder_r2 ++ (wsX5_findOrder_r3 ++ (wsX5_findOrder_r4 ++ wsX5_findOrder_r5)))) ++ wsX50 ++ wsX20)
def wsX5_bestAt : List Cond := .code yX5_bestAt cX5_bestAt 2 (some .int) :: ([.fieldLink RX5 24 "CowsOwed$Plans" "size" "I", .fieldLink RX5 21 "CowsOwed$Plans" "best" "[I"] ++ wsX50)
def wsX5_owesMore : List Cond := .code yX5_owesMore cX5_owesMore 3 (some .boolean) :: ([.fieldLink RX5 72 "CowsOwed$Herds" "size" "I", .methodLink RX5 73 yX2_owedBy, .instanceMethod yX2_owedBy, .selects RX2 yX2_owedBy yX2_owedBy, .initialized RX2, .code yX2_owedBy cX2_owedBy 4 (some .int), .fieldLink RX2 20 "CowsOwed$Herds" "size" "I", .fieldLink RX2 17 "CowsOwed$Herds" "debts" "[[I"] ++ wsX20)
def wsX5_highestRate_r1 : List Cond := [Cond.fieldLink RX5 65 "CowsOwed$Herds" "price" "I", Cond.methodLink RX5 31 yX5_startOrders, Cond.instanceMethod yX5_startOrders, Cond.selects RX5 yX5_startOrders yX5_startOrders, Cond.initialized RX5, Cond.code yX5_startOrders cX5_startOrders 2 none, Cond.fieldLink RX5 18 "CowsOwed$Plans" "tried" "[I", Cond.methodLink RX5 34 yX2_copyFrom, Cond.instanceMethod yX2_copyFrom, Cond.selects RX2 yX2_copyFrom yX2_copyFrom, Cond.initialized RX2, Cond.code yX2_copyFrom cX2_copyFrom 4 none, Cond.fieldLink RX2 20 "CowsOwed$Herds" "size" "I", Cond.fieldLink RX2 24 "CowsOwed$Herds" "price" "I", Cond.fieldLink RX2 9 "CowsOwed$Herds" "cows" "[I", Cond.fieldLink RX2 17 "CowsOwed$Herds" "debts" "[[I", Cond.methodLink RX5 40 yX5_marryInOrder, Cond.instanceMethod yX5_marryInOrder, Cond.selects RX5 yX5_marryInOrder yX5_marryInOrder, Cond.code yX5_marryInOrder cX5_marryInOrder 4 none, Cond.fieldLink RX5 24 "CowsOwed$Plans" "size" "I", Cond.fieldLink RX5 9 "CowsOwed$Plans" "his" "[I", Cond.fieldLink RX5 15 "CowsOwed$Plans" "hers" "[I", Cond.methodLink RX5 57 yX2_marry]
def wsX5_highestRate_r2 : List Cond := [Cond.instanceMethod yX2_marry, Cond.selects RX2 yX2_marry yX2_marry, Cond.code yX2_marry cX2_marry 4 (some .int), Cond.fieldLink RX2 27 "CowsOwed$Herds" "clans" "[LCowsOwed$Clan;", Cond.methodLink RX2 35 ⟨"CowsOwed$Clan", "asks", "(I)I"⟩, Cond.sameMethod "CowsOwed$Clan" "CowsOwed$Clan" "asks" "(I)I", Cond.selects RX0 ⟨"CowsOwed$Clan", "asks", "(I)I"⟩ yX1_asks, Cond.instanceMethod yX1_asks, Cond.initialized RX1, Cond.code yX1_asks cX1_asks 2 (some .int), Cond.methodLink RX2 35 yX1_asks, Cond.selects RX1 yX1_asks yX1_asks, Cond.instanceMethod ⟨"CowsOwed$Clan", "asks", "(I)I"⟩, Cond.selects RX3 ⟨"CowsOwed$Clan", "asks", "(I)I"⟩ yX3_asks, Cond.instanceMethod yX3_asks, Cond.initialized RX3, Cond.code yX3_asks cX3_asks 2 (some .int), Cond.methodLink RX3 9 yX7_asks, Cond.sameMethod "CowsOwed$Proud" "CowsOwed$Proud" "asks" "(I)I", Cond.superclass RX3 RX7, Cond.instanceMethod yX7_asks, Cond.initialized RX7, Cond.code yX7_asks cX7_asks 2 (some .int), Cond.selects RX6 ⟨"CowsOwed$Clan", "asks", "(I)I"⟩ yX6_asks]
def wsX5_highestRate_r3 : List Cond := [Cond.instanceMethod yX6_asks, Cond.initialized RX6, Cond.code yX6_asks cX6_asks 2 (some .int), Cond.methodLink RX6 9 Lib.Math.max.name, Cond.static Lib.Math.max.name, Cond.initialized "java/lang/Math", Cond.code Lib.Math.max.name Lib.Math.max.code 2 (some .int), Cond.selects RX7 ⟨"CowsOwed$Clan", "asks", "(I)I"⟩ yX7_asks, Cond.methodLink RX2 44 yX2_pay, Cond.instanceMethod yX2_pay, Cond.selects RX2 yX2_pay yX2_pay, Cond.code yX2_pay cX2_pay 5 (some .int), Cond.methodLink RX2 48 Lib.Math.min.name, Cond.static Lib.Math.min.name, Cond.code Lib.Math.min.name Lib.Math.min.code 2 (some .int), Cond.methodLink RX2 41 ⟨"CowsOwed$Clan", "spares", "(I)I"⟩, Cond.sameMethod "CowsOwed$Clan" "CowsOwed$Clan" "spares" "(I)I", Cond.instanceMethod ⟨"CowsOwed$Clan", "spares", "(I)I"⟩, Cond.selects RX0 ⟨"CowsOwed$Clan", "spares", "(I)I"⟩ yX0_spares, Cond.instanceMethod yX0_spares, Cond.initialized RX0, Cond.code yX0_spares cX0_spares 2 (some .int), Cond.code yX1_spares cX1_spares 2 (some .int), Cond.methodLink RX2 41 yX1_spares]
def wsX5_highestRate_r4 : List Cond := [Cond.instanceMethod yX1_spares, Cond.selects RX1 yX1_spares yX1_spares, Cond.selects RX3 ⟨"CowsOwed$Clan", "spares", "(I)I"⟩ yX1_spares, Cond.selects RX6 ⟨"CowsOwed$Clan", "spares", "(I)I"⟩ yX1_spares, Cond.selects RX7 ⟨"CowsOwed$Clan", "spares", "(I)I"⟩ yX1_spares, Cond.methodLink RX5 68 yX5_owesMore, Cond.static yX5_owesMore, Cond.code yX5_owesMore cX5_owesMore 3 (some .boolean), Cond.fieldLink RX5 72 "CowsOwed$Herds" "size" "I", Cond.methodLink RX5 73 yX2_owedBy, Cond.instanceMethod yX2_owedBy, Cond.selects RX2 yX2_owedBy yX2_owedBy, Cond.code yX2_owedBy cX2_owedBy 4 (some .int)]
def wsX5_highestRate : List Cond := .code yX5_highestRate cX5_highestRate 4 (some .int) :: ((wsX5_highestRate_r1 ++ (wsX5_highestRate_r2 ++ (wsX5_highestRate_r3 ++ wsX5_highestRate_r4))) ++ wsX20 ++ wsX50)
def wsX6_init : List Cond := .code yX6_init cX6_init 1 none :: ([.instanceMethod yX1_init, .initialized RX1, .code yX1_init cX1_init 1 none, .methodLink RX1 3 objectInit, .instanceMethod objectInit, .code objectInit ⟨#[0xb1]⟩ 1 none])
def wsX6_number : List Cond := .code yX6_number cX6_number 1 (some .int) :: ([])
def wsX7_number : List Cond := .code yX7_number cX7_number 1 (some .int) :: ([])
def wsX10_init : List Cond := .code yX10_init cX10_init 1 none :: ([.methodLink RX10 3 objectInit, .instanceMethod objectInit, .code objectInit ⟨#[0xb1]⟩ 1 none, .arrayClass .int, .fieldLink RX10 9 "CowsOwed$Weddings" "his" "[I", .fieldLink RX10 15 "CowsOwed$Weddings" "hers" "[I", .fieldLink RX10 18 "CowsOwed$Weddings" "asked" "[I", .fieldLink RX10 21 "CowsOwed$Weddings" "undone" "[I", .fieldLink RX10 24 "CowsOwed$Weddings" "size" "I"] ++ wsX100)
def wsX9_init : List Cond := .code yX9_init cX9_init 1 none :: ([.methodLink RX9 3 objectInit, .instanceMethod objectInit, .code objectInit ⟨#[0xb1]⟩ 1 none, .arrayClass .int, .fieldLink RX9 9 "CowsOwed$Told" "rates" "[I", .fieldLink RX9 15 "CowsOwed$Told" "asked" "[I", .fieldLink RX9 18 "CowsOwed$Told" "size" "I"] ++ wsX90)
def wsX8_init_r1 : List Cond := [Cond.methodLink RX8 1 objectInit, Cond.instanceMethod objectInit, Cond.code objectInit ⟨#[0xb1]⟩ 1 none, Cond.classLink RX8 7 RX10, Cond.instantiable RX10 5, Cond.initialized RX10, Cond.fieldLink RX8 10 "CowsOwed$Times" "weddings" "LCowsOwed$Weddings;", Cond.classLink RX8 16 RX5, Cond.instantiable RX5 6, Cond.initialized RX5, Cond.fieldLink RX8 19 "CowsOwed$Times" "plans" "LCowsOwed$Plans;", Cond.classLink RX8 23 RX9, Cond.instantiable RX9 3, Cond.initialized RX9, Cond.fieldLink RX8 26 "CowsOwed$Times" "told" "LCowsOwed$Told;", Cond.fieldLink RX8 30 "CowsOwed$Times" "years" "I", Cond.classLink RX8 34 RX2, Cond.instantiable RX2 5, Cond.initialized RX2, Cond.fieldLink RX8 39 "CowsOwed$Times" "herds" "LCowsOwed$Herds;", Cond.instanceMethod yX10_init, Cond.code yX10_init cX10_init 1 none, Cond.methodLink RX10 3 objectInit, Cond.arrayClass .int]
def wsX8_init_r2 : List Cond := [Cond.fieldLink RX10 9 "CowsOwed$Weddings" "his" "[I", Cond.fieldLink RX10 15 "CowsOwed$Weddings" "hers" "[I", Cond.fieldLink RX10 18 "CowsOwed$Weddings" "asked" "[I", Cond.fieldLink RX10 21 "CowsOwed$Weddings" "undone" "[I", Cond.fieldLink RX10 24 "CowsOwed$Weddings" "size" "I", Cond.instanceMethod yX5_init, Cond.code yX5_init cX5_init 1 none, Cond.methodLink RX5 3 objectInit, Cond.fieldLink RX5 9 "CowsOwed$Plans" "his" "[I", Cond.fieldLink RX5 15 "CowsOwed$Plans" "hers" "[I", Cond.fieldLink RX5 18 "CowsOwed$Plans" "tried" "[I", Cond.fieldLink RX5 21 "CowsOwed$Plans" "best" "[I", Cond.fieldLink RX5 24 "CowsOwed$Plans" "size" "I", Cond.fieldLink RX5 28 "CowsOwed$Plans" "leastOwed" "I", Cond.instanceMethod yX9_init, Cond.code yX9_init cX9_init 1 none, Cond.methodLink RX9 3 objectInit, Cond.fieldLink RX9 9 "CowsOwed$Told" "rates" "[I", Cond.fieldLink RX9 15 "CowsOwed$Told" "asked" "[I", Cond.fieldLink RX9 18 "CowsOwed$Told" "size" "I", Cond.methodLink RX8 36 yX2_init, Cond.instanceMethod yX2_init, Cond.code yX2_init cX2_init 2 none, Cond.methodLink RX2 3 objectInit]
def wsX8_init_r3 : List Cond := [Cond.fieldLink RX2 9 "CowsOwed$Herds" "cows" "[I", Cond.classLink RX2 15 "[[I", Cond.fieldLink RX2 17 "CowsOwed$Herds" "debts" "[[I", Cond.fieldLink RX2 20 "CowsOwed$Herds" "size" "I", Cond.fieldLink RX2 24 "CowsOwed$Herds" "price" "I", Cond.fieldLink RX2 27 "CowsOwed$Herds" "clans" "[LCowsOwed$Clan;"]
def wsX8_init : List Cond := .code yX8_init cX8_init 2 none :: ((wsX8_init_r1 ++ (wsX8_init_r2 ++ wsX8_init_r3)) ++ wsX100 ++ wsX80 ++ wsX50 ++ wsX90 ++ wsX20)
def wsX8_begin : List Cond := .code yX8_begin cX8_begin 3 none :: ([.fieldLink RX8 39 "CowsOwed$Times" "herds" "LCowsOwed$Herds;", .fieldLink RX8 10 "CowsOwed$Times" "weddings" "LCowsOwed$Weddings;", .fieldLink RX8 47 "CowsOwed$Weddings" "size" "I", .fieldLink RX8 19 "CowsOwed$Times" "plans" "LCowsOwed$Plans;", .fieldLink RX8 50 "CowsOwed$Plans" "size" "I", .fieldLink RX8 26 "CowsOwed$Times" "told" "LCowsOwed$Told;", .fieldLink RX8 51 "CowsOwed$Told" "size" "I", .fieldLink RX8 30 "CowsOwed$Times" "years" "I", .methodLink RX8 43 yX2_begin, .instanceMethod yX2_begin, .selects RX2 yX2_begin yX2_begin, .initialized RX2, .code yX2_begin cX2_begin 5 none, .fieldLink RX2 20 "CowsOwed$Herds" "size" "I", .fieldLink RX2 24 "CowsOwed$Herds" "price" "I", .fieldLink RX2 9 "CowsOwed$Herds" "cows" "[I", .fieldLink RX2 17 "CowsOwed$Herds" "debts" "[[I"] ++ wsX80 ++ wsX100 ++ wsX50 ++ wsX90 ++ wsX20)
def wsX10_copyFrom : List Cond := .code yX10_copyFrom cX10_copyFrom 3 none :: ([.fieldLink RX10 24 "CowsOwed$Weddings" "size" "I", .fieldLink RX10 9 "CowsOwed$Weddings" "his" "[I", .fieldLink RX10 15 "CowsOwed$Weddings" "hers" "[I", .fieldLink RX10 18 "CowsOwed$Weddings" "asked" "[I", .fieldLink RX10 21 "CowsOwed$Weddings" "undone" "[I"] ++ wsX100)
def wsX9_copyFrom : List Cond := .code yX9_copyFrom cX9_copyFrom 3 none :: ([.fieldLink RX9 18 "CowsOwed$Told" "size" "I", .fieldLink RX9 9 "CowsOwed$Told" "rates" "[I", .fieldLink RX9 15 "CowsOwed$Told" "asked" "[I"] ++ wsX90)
def wsX8_copyFrom_r1 : List Cond := [Cond.fieldLink RX8 39 "CowsOwed$Times" "herds" "LCowsOwed$Herds;", Cond.fieldLink RX8 10 "CowsOwed$Times" "weddings" "LCowsOwed$Weddings;", Cond.fieldLink RX8 19 "CowsOwed$Times" "plans" "LCowsOwed$Plans;", Cond.fieldLink RX8 26 "CowsOwed$Times" "told" "LCowsOwed$Told;", Cond.fieldLink RX8 30 "CowsOwed$Times" "years" "I", Cond.methodLink RX8 52 yX2_copyFrom, Cond.instanceMethod yX2_copyFrom, Cond.selects RX2 yX2_copyFrom yX2_copyFrom, Cond.initialized RX2, Cond.code yX2_copyFrom cX2_copyFrom 4 none, Cond.fieldLink RX2 20 "CowsOwed$Herds" "size" "I", Cond.fieldLink RX2 24 "CowsOwed$Herds" "price" "I", Cond.fieldLink RX2 9 "CowsOwed$Herds" "cows" "[I", Cond.fieldLink RX2 17 "CowsOwed$Herds" "debts" "[[I", Cond.methodLink RX8 56 yX10_copyFrom, Cond.instanceMethod yX10_copyFrom, Cond.selects RX10 yX10_copyFrom yX10_copyFrom, Cond.initialized RX10, Cond.code yX10_copyFrom cX10_copyFrom 3 none, Cond.fieldLink RX10 24 "CowsOwed$Weddings" "size" "I", Cond.fieldLink RX10 9 "CowsOwed$Weddings" "his" "[I", Cond.fieldLink RX10 15 "CowsOwed$Weddings" "hers" "[I", Cond.fieldLink RX10 18 "CowsOwed$Weddings" "asked" "[I", Cond.fieldLink RX10 21 "CowsOwed$Weddings" "undone" "[I"]
def wsX8_copyFrom_r2 : List Cond := [Cond.methodLink RX8 59 yX5_copyFrom, Cond.instanceMethod yX5_copyFrom, Cond.selects RX5 yX5_copyFrom yX5_copyFrom, Cond.initialized RX5, Cond.code yX5_copyFrom cX5_copyFrom 3 none, Cond.fieldLink RX5 24 "CowsOwed$Plans" "size" "I", Cond.fieldLink RX5 9 "CowsOwed$Plans" "his" "[I", Cond.fieldLink RX5 15 "CowsOwed$Plans" "hers" "[I", Cond.methodLink RX8 62 yX9_copyFrom, Cond.instanceMethod yX9_copyFrom, Cond.selects RX9 yX9_copyFrom yX9_copyFrom, Cond.initialized RX9, Cond.code yX9_copyFrom cX9_copyFrom 3 none, Cond.fieldLink RX9 18 "CowsOwed$Told" "size" "I", Cond.fieldLink RX9 9 "CowsOwed$Told" "rates" "[I", Cond.fieldLink RX9 15 "CowsOwed$Told" "asked" "[I"]
def wsX8_copyFrom : List Cond := .code yX8_copyFrom cX8_copyFrom 2 none :: ((wsX8_copyFrom_r1 ++ wsX8_copyFrom_r2) ++ wsX80 ++ wsX20 ++ wsX100 ++ wsX50 ++ wsX90)
def wsX9_note : List Cond := .code yX9_note cX9_note 3 (some .int) :: ([.fieldLink RX9 9 "CowsOwed$Told" "rates" "[I", .fieldLink RX9 18 "CowsOwed$Told" "size" "I", .fieldLink RX9 15 "CowsOwed$Told" "asked" "[I"] ++ wsX90)
def wsX9_canBe_r1 : List Cond := [Cond.fieldLink RX9 18 "CowsOwed$Told" "size" "I", Cond.fieldLink RX9 9 "CowsOwed$Told" "rates" "[I", Cond.fieldLink RX9 15 "CowsOwed$Told" "asked" "[I", Cond.methodLink RX9 26 ⟨"CowsOwed$Clan", "asks", "(I)I"⟩, Cond.sameMethod "CowsOwed$Clan" "CowsOwed$Clan" "asks" "(I)I", Cond.selects RX0 ⟨"CowsOwed$Clan", "asks", "(I)I"⟩ yX1_asks, Cond.instanceMethod yX1_asks, Cond.initialized RX1, Cond.code yX1_asks cX1_asks 2 (some .int), Cond.methodLink RX9 26 yX1_asks, Cond.selects RX1 yX1_asks yX1_asks, Cond.instanceMethod ⟨"CowsOwed$Clan", "asks", "(I)I"⟩, Cond.selects RX3 ⟨"CowsOwed$Clan", "asks", "(I)I"⟩ yX3_asks, Cond.instanceMethod yX3_asks, Cond.initialized RX3, Cond.code yX3_asks cX3_asks 2 (some .int), Cond.methodLink RX3 9 yX7_asks, Cond.sameMethod "CowsOwed$Proud" "CowsOwed$Proud" "asks" "(I)I", Cond.superclass RX3 RX7, Cond.instanceMethod yX7_asks, Cond.initialized RX7, Cond.code yX7_asks cX7_asks 2 (some .int), Cond.selects RX6 ⟨"CowsOwed$Clan", "asks", "(I)I"⟩ yX6_asks, Cond.instanceMethod yX6_asks]
def wsX9_canBe_r2 : List Cond := [Cond.initialized RX6, Cond.code yX6_asks cX6_asks 2 (some .int), Cond.methodLink RX6 9 Lib.Math.max.name, Cond.static Lib.Math.max.name, Cond.initialized "java/lang/Math", Cond.code Lib.Math.max.name Lib.Math.max.code 2 (some .int), Cond.selects RX7 ⟨"CowsOwed$Clan", "asks", "(I)I"⟩ yX7_asks]
def wsX9_canBe : List Cond := .code yX9_canBe cX9_canBe 3 (some .boolean) :: ((wsX9_canBe_r1 ++ wsX9_canBe_r2) ++ wsX90)
def wsX9_kindsLeft_r1 : List Cond := [Cond.methodLink RX9 22 yX9_canBe, Cond.instanceMethod yX9_canBe, Cond.selects RX9 yX9_canBe yX9_canBe, Cond.initialized RX9, Cond.code yX9_canBe cX9_canBe 3 (some .boolean), Cond.fieldLink RX9 18 "CowsOwed$Told" "size" "I", Cond.fieldLink RX9 9 "CowsOwed$Told" "rates" "[I", Cond.fieldLink RX9 15 "CowsOwed$Told" "asked" "[I", Cond.methodLink RX9 26 ⟨"CowsOwed$Clan", "asks", "(I)I"⟩, Cond.sameMethod "CowsOwed$Clan" "CowsOwed$Clan" "asks" "(I)I", Cond.selects RX0 ⟨"CowsOwed$Clan", "asks", "(I)I"⟩ yX1_asks, Cond.instanceMethod yX1_asks, Cond.initialized RX1, Cond.code yX1_asks cX1_asks 2 (some .int), Cond.methodLink RX9 26 yX1_asks, Cond.selects RX1 yX1_asks yX1_asks, Cond.instanceMethod ⟨"CowsOwed$Clan", "asks", "(I)I"⟩, Cond.selects RX3 ⟨"CowsOwed$Clan", "asks", "(I)I"⟩ yX3_asks, Cond.instanceMethod yX3_asks, Cond.initialized RX3, Cond.code yX3_asks cX3_asks 2 (some .int), Cond.methodLink RX3 9 yX7_asks, Cond.sameMethod "CowsOwed$Proud" "CowsOwed$Proud" "asks" "(I)I", Cond.superclass RX3 RX7]
def wsX9_kindsLeft_r2 : List Cond := [Cond.instanceMethod yX7_asks, Cond.initialized RX7, Cond.code yX7_asks cX7_asks 2 (some .int), Cond.selects RX6 ⟨"CowsOwed$Clan", "asks", "(I)I"⟩ yX6_asks, Cond.instanceMethod yX6_asks, Cond.initialized RX6, Cond.code yX6_asks cX6_asks 2 (some .int), Cond.methodLink RX6 9 Lib.Math.max.name, Cond.static Lib.Math.max.name, Cond.initialized "java/lang/Math", Cond.code Lib.Math.max.name Lib.Math.max.code 2 (some .int), Cond.selects RX7 ⟨"CowsOwed$Clan", "asks", "(I)I"⟩ yX7_asks]
def wsX9_kindsLeft : List Cond := .code yX9_kindsLeft cX9_kindsLeft 4 (some .int) :: ((wsX9_kindsLeft_r1 ++ wsX9_kindsLeft_r2) ++ wsX90)
def wsX9_has : List Cond := .code yX9_has cX9_has 2 (some .boolean) :: ([])
def wsX9_alike_r1 : List Cond := [Cond.methodLink RX9 40 yX9_has, Cond.static yX9_has, Cond.initialized RX9, Cond.code yX9_has cX9_has 2 (some .boolean), Cond.methodLink RX9 26 ⟨"CowsOwed$Clan", "asks", "(I)I"⟩, Cond.sameMethod "CowsOwed$Clan" "CowsOwed$Clan" "asks" "(I)I", Cond.selects RX0 ⟨"CowsOwed$Clan", "asks", "(I)I"⟩ yX1_asks, Cond.instanceMethod yX1_asks, Cond.initialized RX1, Cond.code yX1_asks cX1_asks 2 (some .int), Cond.methodLink RX9 26 yX1_asks, Cond.selects RX1 yX1_asks yX1_asks, Cond.instanceMethod ⟨"CowsOwed$Clan", "asks", "(I)I"⟩, Cond.selects RX3 ⟨"CowsOwed$Clan", "asks", "(I)I"⟩ yX3_asks, Cond.instanceMethod yX3_asks, Cond.initialized RX3, Cond.code yX3_asks cX3_asks 2 (some .int), Cond.methodLink RX3 9 yX7_asks, Cond.sameMethod "CowsOwed$Proud" "CowsOwed$Proud" "asks" "(I)I", Cond.superclass RX3 RX7, Cond.instanceMethod yX7_asks, Cond.initialized RX7, Cond.code yX7_asks cX7_asks 2 (some .int), Cond.selects RX6 ⟨"CowsOwed$Clan", "asks", "(I)I"⟩ yX6_asks]
def wsX9_alike_r2 : List Cond := [Cond.instanceMethod yX6_asks, Cond.initialized RX6, Cond.code yX6_asks cX6_asks 2 (some .int), Cond.methodLink RX6 9 Lib.Math.max.name, Cond.static Lib.Math.max.name, Cond.initialized "java/lang/Math", Cond.code Lib.Math.max.name Lib.Math.max.code 2 (some .int), Cond.selects RX7 ⟨"CowsOwed$Clan", "asks", "(I)I"⟩ yX7_asks]
def wsX9_alike : List Cond := .code yX9_alike cX9_alike 6 (some .int) :: ((wsX9_alike_r1 ++ wsX9_alike_r2))
def wsX9_mostLeft_r1 : List Cond := [Cond.methodLink RX9 48 Lib.Math.max.name, Cond.static Lib.Math.max.name, Cond.initialized "java/lang/Math", Cond.code Lib.Math.max.name Lib.Math.max.code 2 (some .int), Cond.methodLink RX9 40 yX9_has, Cond.static yX9_has, Cond.initialized RX9, Cond.code yX9_has cX9_has 2 (some .boolean), Cond.methodLink RX9 26 ⟨"CowsOwed$Clan", "asks", "(I)I"⟩, Cond.sameMethod "CowsOwed$Clan" "CowsOwed$Clan" "asks" "(I)I", Cond.selects RX0 ⟨"CowsOwed$Clan", "asks", "(I)I"⟩ yX1_asks, Cond.instanceMethod yX1_asks, Cond.initialized RX1, Cond.code yX1_asks cX1_asks 2 (some .int), Cond.methodLink RX9 26 yX1_asks, Cond.selects RX1 yX1_asks yX1_asks, Cond.instanceMethod ⟨"CowsOwed$Clan", "asks", "(I)I"⟩, Cond.selects RX3 ⟨"CowsOwed$Clan", "asks", "(I)I"⟩ yX3_asks, Cond.instanceMethod yX3_asks, Cond.initialized RX3, Cond.code yX3_asks cX3_asks 2 (some .int), Cond.methodLink RX3 9 yX7_asks, Cond.sameMethod "CowsOwed$Proud" "CowsOwed$Proud" "asks" "(I)I", Cond.superclass RX3 RX7]
def wsX9_mostLeft_r2 : List Cond := [Cond.instanceMethod yX7_asks, Cond.initialized RX7, Cond.code yX7_asks cX7_asks 2 (some .int), Cond.selects RX6 ⟨"CowsOwed$Clan", "asks", "(I)I"⟩ yX6_asks, Cond.instanceMethod yX6_asks, Cond.initialized RX6, Cond.code yX6_asks cX6_asks 2 (some .int), Cond.methodLink RX6 9 Lib.Math.max.name, Cond.selects RX7 ⟨"CowsOwed$Clan", "asks", "(I)I"⟩ yX7_asks, Cond.methodLink RX9 44 yX9_alike, Cond.static yX9_alike, Cond.code yX9_alike cX9_alike 6 (some .int)]
def wsX9_mostLeft : List Cond := .code yX9_mostLeft cX9_mostLeft 5 (some .int) :: ((wsX9_mostLeft_r1 ++ wsX9_mostLeft_r2))
def wsX9_nextRate_r1 : List Cond := [Cond.methodLink RX9 32 yX9_kindsLeft, Cond.instanceMethod yX9_kindsLeft, Cond.selects RX9 yX9_kindsLeft yX9_kindsLeft, Cond.initialized RX9, Cond.code yX9_kindsLeft cX9_kindsLeft 4 (some .int), Cond.methodLink RX9 22 yX9_canBe, Cond.instanceMethod yX9_canBe, Cond.selects RX9 yX9_canBe yX9_canBe, Cond.code yX9_canBe cX9_canBe 3 (some .boolean), Cond.fieldLink RX9 18 "CowsOwed$Told" "size" "I", Cond.fieldLink RX9 9 "CowsOwed$Told" "rates" "[I", Cond.fieldLink RX9 15 "CowsOwed$Told" "asked" "[I", Cond.methodLink RX9 26 ⟨"CowsOwed$Clan", "asks", "(I)I"⟩, Cond.sameMethod "CowsOwed$Clan" "CowsOwed$Clan" "asks" "(I)I", Cond.selects RX0 ⟨"CowsOwed$Clan", "asks", "(I)I"⟩ yX1_asks, Cond.instanceMethod yX1_asks, Cond.initialized RX1, Cond.code yX1_asks cX1_asks 2 (some .int), Cond.methodLink RX9 26 yX1_asks, Cond.selects RX1 yX1_asks yX1_asks, Cond.instanceMethod ⟨"CowsOwed$Clan", "asks", "(I)I"⟩, Cond.selects RX3 ⟨"CowsOwed$Clan", "asks", "(I)I"⟩ yX3_asks, Cond.instanceMethod yX3_asks, Cond.initialized RX3]
def wsX9_nextRate_r2 : List Cond := [Cond.code yX3_asks cX3_asks 2 (some .int), Cond.methodLink RX3 9 yX7_asks, Cond.sameMethod "CowsOwed$Proud" "CowsOwed$Proud" "asks" "(I)I", Cond.superclass RX3 RX7, Cond.instanceMethod yX7_asks, Cond.initialized RX7, Cond.code yX7_asks cX7_asks 2 (some .int), Cond.selects RX6 ⟨"CowsOwed$Clan", "asks", "(I)I"⟩ yX6_asks, Cond.instanceMethod yX6_asks, Cond.initialized RX6, Cond.code yX6_asks cX6_asks 2 (some .int), Cond.methodLink RX6 9 Lib.Math.max.name, Cond.static Lib.Math.max.name, Cond.initialized "java/lang/Math", Cond.code Lib.Math.max.name Lib.Math.max.code 2 (some .int), Cond.selects RX7 ⟨"CowsOwed$Clan", "asks", "(I)I"⟩ yX7_asks, Cond.methodLink RX9 36 yX9_mostLeft, Cond.static yX9_mostLeft, Cond.code yX9_mostLeft cX9_mostLeft 5 (some .int), Cond.methodLink RX9 48 Lib.Math.max.name, Cond.methodLink RX9 40 yX9_has, Cond.static yX9_has, Cond.code yX9_has cX9_has 2 (some .boolean), Cond.methodLink RX9 44 yX9_alike]
def wsX9_nextRate_r3 : List Cond := [Cond.static yX9_alike, Cond.code yX9_alike cX9_alike 6 (some .int)]
def wsX9_nextRate : List Cond := .code yX9_nextRate cX9_nextRate 7 (some .int) :: ((wsX9_nextRate_r1 ++ (wsX9_nextRate_r2 ++ wsX9_nextRate_r3)) ++ wsX90)
def wsX10_knows : List Cond := .code yX10_knows cX10_knows 2 (some .boolean) :: ([.fieldLink RX10 24 "CowsOwed$Weddings" "size" "I"] ++ wsX100)
def wsX10_note : List Cond := .code yX10_note cX10_note 4 (some .int) :: ([.fieldLink RX10 9 "CowsOwed$Weddings" "his" "[I", .fieldLink RX10 24 "CowsOwed$Weddings" "size" "I", .fieldLink RX10 15 "CowsOwed$Weddings" "hers" "[I", .fieldLink RX10 18 "CowsOwed$Weddings" "asked" "[I", .fieldLink RX10 21 "CowsOwed$Weddings" "undone" "[I"] ++ wsX100)
def wsX11_init_r1 : List Cond := [Cond.methodLink RX11 1 objectInit, Cond.instanceMethod objectInit, Cond.code objectInit ⟨#[0xb1]⟩ 1 none, Cond.classLink RX11 7 RX1, Cond.instantiable RX1 0, Cond.initialized RX1, Cond.classLink RX11 10 RX7, Cond.instantiable RX7 0, Cond.initialized RX7, Cond.classLink RX11 13 RX6, Cond.instantiable RX6 0, Cond.initialized RX6, Cond.classLink RX11 16 RX0, Cond.instantiable RX0 0, Cond.initialized RX0, Cond.classLink RX11 19 RX3, Cond.instantiable RX3 0, Cond.initialized RX3, Cond.fieldLink RX11 22 "CowsOwed" "kinds" "[LCowsOwed$Clan;", Cond.fieldLink RX11 28 "CowsOwed" "clans" "[LCowsOwed$Clan;", Cond.classLink RX11 31 RX4, Cond.instantiable RX4 2, Cond.initialized RX4, Cond.fieldLink RX11 34 "CowsOwed" "page" "LCowsOwed$Page;"]
def wsX11_init_r2 : List Cond := [Cond.classLink RX11 38 RX8, Cond.instantiable RX8 5, Cond.initialized RX8, Cond.fieldLink RX11 43 "CowsOwed" "now" "LCowsOwed$Times;", Cond.fieldLink RX11 47 "CowsOwed" "kept" "LCowsOwed$Times;", Cond.classLink RX11 50 RX2, Cond.instantiable RX2 5, Cond.initialized RX2, Cond.fieldLink RX11 53 "CowsOwed" "trial" "LCowsOwed$Herds;", Cond.fieldLink RX11 57 "CowsOwed" "hasImage" "Z", Cond.fieldLink RX11 61 "CowsOwed" "timesRead" "I", Cond.instanceMethod yX1_init, Cond.code yX1_init cX1_init 1 none, Cond.methodLink RX1 3 objectInit, Cond.instanceMethod yX7_init, Cond.code yX7_init cX7_init 1 none, Cond.instanceMethod yX6_init, Cond.code yX6_init cX6_init 1 none, Cond.instanceMethod yX0_init, Cond.code yX0_init cX0_init 1 none, Cond.instanceMethod yX3_init, Cond.code yX3_init cX3_init 1 none, Cond.instanceMethod yX4_init, Cond.code yX4_init cX4_init 1 none]
def wsX11_init_r3 : List Cond := [Cond.methodLink RX4 3 objectInit, Cond.arrayClass .int, Cond.fieldLink RX4 9 "CowsOwed$Page" "codes" "[I", Cond.fieldLink RX4 15 "CowsOwed$Page" "size" "I", Cond.methodLink RX11 40 yX8_init, Cond.instanceMethod yX8_init, Cond.code yX8_init cX8_init 2 none, Cond.methodLink RX8 1 objectInit, Cond.classLink RX8 7 RX10, Cond.instantiable RX10 5, Cond.initialized RX10, Cond.fieldLink RX8 10 "CowsOwed$Times" "weddings" "LCowsOwed$Weddings;", Cond.classLink RX8 16 RX5, Cond.instantiable RX5 6, Cond.initialized RX5, Cond.fieldLink RX8 19 "CowsOwed$Times" "plans" "LCowsOwed$Plans;", Cond.classLink RX8 23 RX9, Cond.instantiable RX9 3, Cond.initialized RX9, Cond.fieldLink RX8 26 "CowsOwed$Times" "told" "LCowsOwed$Told;", Cond.fieldLink RX8 30 "CowsOwed$Times" "years" "I", Cond.classLink RX8 34 RX2, Cond.fieldLink RX8 39 "CowsOwed$Times" "herds" "LCowsOwed$Herds;", Cond.instanceMethod yX10_init]
def wsX11_init_r4 : List Cond := [Cond.code yX10_init cX10_init 1 none, Cond.methodLink RX10 3 objectInit, Cond.fieldLink RX10 9 "CowsOwed$Weddings" "his" "[I", Cond.fieldLink RX10 15 "CowsOwed$Weddings" "hers" "[I", Cond.fieldLink RX10 18 "CowsOwed$Weddings" "asked" "[I", Cond.fieldLink RX10 21 "CowsOwed$Weddings" "undone" "[I", Cond.fieldLink RX10 24 "CowsOwed$Weddings" "size" "I", Cond.instanceMethod yX5_init, Cond.code yX5_init cX5_init 1 none, Cond.methodLink RX5 3 objectInit, Cond.fieldLink RX5 9 "CowsOwed$Plans" "his" "[I", Cond.fieldLink RX5 15 "CowsOwed$Plans" "hers" "[I", Cond.fieldLink RX5 18 "CowsOwed$Plans" "tried" "[I", Cond.fieldLink RX5 21 "CowsOwed$Plans" "best" "[I", Cond.fieldLink RX5 24 "CowsOwed$Plans" "size" "I", Cond.fieldLink RX5 28 "CowsOwed$Plans" "leastOwed" "I", Cond.instanceMethod yX9_init, Cond.code yX9_init cX9_init 1 none, Cond.methodLink RX9 3 objectInit, Cond.fieldLink RX9 9 "CowsOwed$Told" "rates" "[I", Cond.fieldLink RX9 15 "CowsOwed$Told" "asked" "[I", Cond.fieldLink RX9 18 "CowsOwed$Told" "size" "I", Cond.methodLink RX8 36 yX2_init, Cond.instanceMethod yX2_init]
def wsX11_init_r5 : List Cond := [Cond.code yX2_init cX2_init 2 none, Cond.methodLink RX2 3 objectInit, Cond.fieldLink RX2 9 "CowsOwed$Herds" "cows" "[I", Cond.classLink RX2 15 "[[I", Cond.fieldLink RX2 17 "CowsOwed$Herds" "debts" "[[I", Cond.fieldLink RX2 20 "CowsOwed$Herds" "size" "I", Cond.fieldLink RX2 24 "CowsOwed$Herds" "price" "I", Cond.fieldLink RX2 27 "CowsOwed$Herds" "clans" "[LCowsOwed$Clan;", Cond.methodLink RX11 52 yX2_init]
def wsX11_init : List Cond := .code yX11_init cX11_init 2 none :: ((wsX11_init_r1 ++ (wsX11_init_r2 ++ (wsX11_init_r3 ++ (wsX11_init_r4 ++ wsX11_init_r5)))) ++ wsX10 ++ wsX70 ++ wsX60 ++ wsX00 ++ wsX30 ++ wsX110 ++ wsX40 ++ wsX80 ++ wsX20 ++ wsX100 ++ wsX50 ++ wsX90)
def wsX11_letter : List Cond := .code yX11_letter cX11_letter 2 (some .int) :: ([.fieldLink RX11 34 "CowsOwed" "page" "LCowsOwed$Page;", .fieldLink RX11 65 "CowsOwed$Page" "size" "I", .methodLink RX11 68 yX4_put, .instanceMethod yX4_put, .selects RX4 yX4_put yX4_put, .initialized RX4, .code yX4_put cX4_put 2 (some .int), .fieldLink RX4 9 "CowsOwed$Page" "codes" "[I", .fieldLink RX4 15 "CowsOwed$Page" "size" "I"] ++ wsX110 ++ wsX40)
def wsX11_blank : List Cond := .code yX11_blank cX11_blank 2 (some .int) :: ([.fieldLink RX11 34 "CowsOwed" "page" "LCowsOwed$Page;", .fieldLink RX11 65 "CowsOwed$Page" "size" "I"] ++ wsX110 ++ wsX40)
def wsX11_fault_r1 : List Cond := [Cond.fieldLink RX11 34 "CowsOwed" "page" "LCowsOwed$Page;", Cond.methodLink RX11 72 yX4_firstFault, Cond.instanceMethod yX4_firstFault, Cond.selects RX4 yX4_firstFault yX4_firstFault, Cond.initialized RX4, Cond.code yX4_firstFault cX4_firstFault 3 (some .int), Cond.fieldLink RX4 15 "CowsOwed$Page" "size" "I", Cond.fieldLink RX4 9 "CowsOwed$Page" "codes" "[I", Cond.methodLink RX4 19 yX4_behind, Cond.static yX4_behind, Cond.code yX4_behind cX4_behind 3 (some .int), Cond.methodLink RX4 23 yX4_kindOfLetter, Cond.static yX4_kindOfLetter, Cond.code yX4_kindOfLetter cX4_kindOfLetter 1 (some .int), Cond.methodLink RX4 33 yJ0_indexOf_0f7a4, Cond.instanceMethod yJ0_indexOf_0f7a4, Cond.selects RJ0 yJ0_indexOf_0f7a4 yJ0_indexOf_0f7a4, Cond.initialized RJ0, Cond.code yJ0_indexOf_0f7a4 cJ0_indexOf_0f7a4 2 (some .int), Cond.methodLink RJ0 633 yJ0_indexOf_7cf53, Cond.instanceMethod yJ0_indexOf_7cf53, Cond.selects RJ0 yJ0_indexOf_7cf53 yJ0_indexOf_7cf53, Cond.code yJ0_indexOf_7cf53 cJ0_indexOf_7cf53 3 (some .int), Cond.fieldLink RJ0 9 "java/lang/String" "value" "[B"]
def wsX11_fault_r2 : List Cond := [Cond.methodLink RJ0 492 yJ0_isLatin1_aae02, Cond.instanceMethod yJ0_isLatin1_aae02, Cond.selects RJ0 yJ0_isLatin1_aae02 yJ0_isLatin1_aae02, Cond.code yJ0_isLatin1_aae02 cJ0_isLatin1_aae02 1 (some .boolean), Cond.fieldLink RJ0 38 "java/lang/String" "COMPACT_STRINGS" "Z", Cond.fieldLink RJ0 15 "java/lang/String" "coder" "B", Cond.methodLink RJ0 505 yJ0_length_8abf5, Cond.instanceMethod yJ0_length_8abf5, Cond.selects RJ0 yJ0_length_8abf5 yJ0_length_8abf5, Cond.code yJ0_length_8abf5 cJ0_length_8abf5 1 (some .int), Cond.methodLink RJ0 335 yJ0_coder_7d493, Cond.instanceMethod yJ0_coder_7d493, Cond.selects RJ0 yJ0_coder_7d493 yJ0_coder_7d493, Cond.code yJ0_coder_7d493 cJ0_coder_7d493 1 (some .byte), Cond.methodLink RJ0 637 yJ1_indexOf_4cfef, Cond.static yJ1_indexOf_4cfef, Cond.initialized RJ1, Cond.code yJ1_indexOf_4cfef cJ1_indexOf_4cfef 4 (some .int), Cond.methodLink RJ1 92 Lib.Math.max.name, Cond.static Lib.Math.max.name, Cond.initialized "java/lang/Math", Cond.code Lib.Math.max.name Lib.Math.max.code 2 (some .int), Cond.methodLink RJ1 38 Lib.Math.min.name, Cond.static Lib.Math.min.name]
def wsX11_fault_r3 : List Cond := [Cond.code Lib.Math.min.name Lib.Math.min.code 2 (some .int), Cond.methodLink RJ1 88 yJ1_canEncode_9a6ad, Cond.static yJ1_canEncode_9a6ad, Cond.code yJ1_canEncode_9a6ad cJ1_canEncode_9a6ad 1 (some .boolean), Cond.methodLink RJ1 95 yJ1_indexOfChar_4cfef, Cond.static yJ1_indexOfChar_4cfef, Cond.code yJ1_indexOfChar_4cfef cJ1_indexOfChar_4cfef 6 (some .int), Cond.methodLink RJ0 640 yJ2_indexOf_4cfef, Cond.static yJ2_indexOf_4cfef, Cond.initialized RJ2, Cond.code yJ2_indexOf_4cfef cJ2_indexOf_4cfef 4 (some .int), Cond.methodLink RJ2 224 Lib.Math.max.name, Cond.methodLink RJ2 183 Lib.Math.min.name, Cond.constant RJ2 227 (65536), Cond.methodLink RJ2 228 yJ2_indexOfChar_4cfef, Cond.static yJ2_indexOfChar_4cfef, Cond.code yJ2_indexOfChar_4cfef cJ2_indexOfChar_4cfef 4 (some .int), Cond.methodLink RJ2 96 yJ2_checkBoundsBeginEnd_d044e, Cond.static yJ2_checkBoundsBeginEnd_d044e, Cond.code yJ2_checkBoundsBeginEnd_d044e cJ2_checkBoundsBeginEnd_d044e 3 none, Cond.methodLink RJ2 48 yJ2_length_9d52b, Cond.static yJ2_length_9d52b, Cond.code yJ2_length_9d52b cJ2_length_9d52b 1 (some .int), Cond.methodLink RJ2 241 yJ0_checkBoundsBeginEnd_23922]
def wsX11_fault_r4 : List Cond := [Cond.static yJ0_checkBoundsBeginEnd_23922, Cond.code yJ0_checkBoundsBeginEnd_23922 cJ0_checkBoundsBeginEnd_23922 3 none, Cond.fieldLink RJ0 1053 "jdk/internal/util/Preconditions" "SIOOBE_FORMATTER" "Ljava/util/function/BiFunction;", Cond.methodLink RJ0 1062 yJ3_checkFromToIndex_8c36e, Cond.static yJ3_checkFromToIndex_8c36e, Cond.initialized RJ3, Cond.code yJ3_checkFromToIndex_8c36e cJ3_checkFromToIndex_8c36e 4 (some .int), Cond.methodLink RJ2 244 yJ2_indexOfCharUnsafe_4cfef, Cond.static yJ2_indexOfCharUnsafe_4cfef, Cond.code yJ2_indexOfCharUnsafe_4cfef cJ2_indexOfCharUnsafe_4cfef 5 (some .int), Cond.methodLink RJ2 71 yJ2_getChar_3b067, Cond.static yJ2_getChar_3b067, Cond.code yJ2_getChar_3b067 cJ2_getChar_3b067 2 (some .char), Cond.fieldLink RJ2 44 "java/lang/StringUTF16" "$assertionsDisabled" "Z", Cond.fieldLink RJ2 59 "java/lang/StringUTF16" "HI_BYTE_SHIFT" "I", Cond.fieldLink RJ2 63 "java/lang/StringUTF16" "LO_BYTE_SHIFT" "I", Cond.methodLink RJ2 232 yJ2_indexOfSupplementary_4cfef, Cond.static yJ2_indexOfSupplementary_4cfef, Cond.code yJ2_indexOfSupplementary_4cfef cJ2_indexOfSupplementary_4cfef 7 (some .int), Cond.methodLink RJ2 164 yJ11_isValidCodePoint_9a6ad, Cond.static yJ11_isValidCodePoint_9a6ad, Cond.initialized RJ11, Cond.code yJ11_isValidCodePoint_9a6ad cJ11_isValidCodePoint_9a6ad 2 (some .boolean), Cond.methodLink RJ2 157 yJ11_highSurrogate_5068e]
def wsX11_fault_r5 : List Cond := [Cond.static yJ11_highSurrogate_5068e, Cond.code yJ11_highSurrogate_5068e cJ11_highSurrogate_5068e 1 (some .char), Cond.constant RJ11 110 (55232), Cond.methodLink RJ2 161 yJ11_lowSurrogate_5068e, Cond.static yJ11_lowSurrogate_5068e, Cond.code yJ11_lowSurrogate_5068e cJ11_lowSurrogate_5068e 1 (some .char), Cond.constant RJ11 76 (56320), Cond.methodLink RX4 27 yX4_behindMark, Cond.static yX4_behindMark, Cond.code yX4_behindMark cX4_behindMark 2 (some .int)]
def wsX11_fault : List Cond := .code yX11_fault cX11_fault 1 (some .int) :: ((wsX11_fault_r1 ++ (wsX11_fault_r2 ++ (wsX11_fault_r3 ++ (wsX11_fault_r4 ++ wsX11_fault_r5)))) ++ wsX110 ++ wsX40)
def wsX11_kindAt : List Cond := .code yX11_kindAt cX11_kindAt 2 (some (.object "CowsOwed$Clan")) :: ([.fieldLink RX11 22 "CowsOwed" "kinds" "[LCowsOwed$Clan;"] ++ wsX110)
def wsX11_hills_r1 : List Cond := [Cond.fieldLink RX11 34 "CowsOwed" "page" "LCowsOwed$Page;", Cond.fieldLink RX11 43 "CowsOwed" "now" "LCowsOwed$Times;", Cond.fieldLink RX11 28 "CowsOwed" "clans" "[LCowsOwed$Clan;", Cond.fieldLink RX11 97 "CowsOwed$Times" "herds" "LCowsOwed$Herds;", Cond.fieldLink RX11 100 "CowsOwed$Herds" "cows" "[I", Cond.fieldLink RX11 65 "CowsOwed$Page" "size" "I", Cond.fieldLink RX11 57 "CowsOwed" "hasImage" "Z", Cond.fieldLink RX11 61 "CowsOwed" "timesRead" "I", Cond.methodLink RX11 76 yX4_isHills, Cond.instanceMethod yX4_isHills, Cond.selects RX4 yX4_isHills yX4_isHills, Cond.initialized RX4, Cond.code yX4_isHills cX4_isHills 1 (some .boolean), Cond.fieldLink RX4 15 "CowsOwed$Page" "size" "I", Cond.fieldLink RX4 9 "CowsOwed$Page" "codes" "[I", Cond.methodLink RX4 38 yX4_firstFault, Cond.instanceMethod yX4_firstFault, Cond.selects RX4 yX4_firstFault yX4_firstFault, Cond.code yX4_firstFault cX4_firstFault 3 (some .int), Cond.methodLink RX4 19 yX4_behind, Cond.static yX4_behind, Cond.code yX4_behind cX4_behind 3 (some .int), Cond.methodLink RX4 23 yX4_kindOfLetter, Cond.static yX4_kindOfLetter]
def wsX11_hills_r2 : List Cond := [Cond.code yX4_kindOfLetter cX4_kindOfLetter 1 (some .int), Cond.methodLink RX4 33 yJ0_indexOf_0f7a4, Cond.instanceMethod yJ0_indexOf_0f7a4, Cond.selects RJ0 yJ0_indexOf_0f7a4 yJ0_indexOf_0f7a4, Cond.initialized RJ0, Cond.code yJ0_indexOf_0f7a4 cJ0_indexOf_0f7a4 2 (some .int), Cond.methodLink RJ0 633 yJ0_indexOf_7cf53, Cond.instanceMethod yJ0_indexOf_7cf53, Cond.selects RJ0 yJ0_indexOf_7cf53 yJ0_indexOf_7cf53, Cond.code yJ0_indexOf_7cf53 cJ0_indexOf_7cf53 3 (some .int), Cond.fieldLink RJ0 9 "java/lang/String" "value" "[B", Cond.methodLink RJ0 492 yJ0_isLatin1_aae02, Cond.instanceMethod yJ0_isLatin1_aae02, Cond.selects RJ0 yJ0_isLatin1_aae02 yJ0_isLatin1_aae02, Cond.code yJ0_isLatin1_aae02 cJ0_isLatin1_aae02 1 (some .boolean), Cond.fieldLink RJ0 38 "java/lang/String" "COMPACT_STRINGS" "Z", Cond.fieldLink RJ0 15 "java/lang/String" "coder" "B", Cond.methodLink RJ0 505 yJ0_length_8abf5, Cond.instanceMethod yJ0_length_8abf5, Cond.selects RJ0 yJ0_length_8abf5 yJ0_length_8abf5, Cond.code yJ0_length_8abf5 cJ0_length_8abf5 1 (some .int), Cond.methodLink RJ0 335 yJ0_coder_7d493, Cond.instanceMethod yJ0_coder_7d493, Cond.selects RJ0 yJ0_coder_7d493 yJ0_coder_7d493]
def wsX11_hills_r3 : List Cond := [Cond.code yJ0_coder_7d493 cJ0_coder_7d493 1 (some .byte), Cond.methodLink RJ0 637 yJ1_indexOf_4cfef, Cond.static yJ1_indexOf_4cfef, Cond.initialized RJ1, Cond.code yJ1_indexOf_4cfef cJ1_indexOf_4cfef 4 (some .int), Cond.methodLink RJ1 92 Lib.Math.max.name, Cond.static Lib.Math.max.name, Cond.initialized "java/lang/Math", Cond.code Lib.Math.max.name Lib.Math.max.code 2 (some .int), Cond.methodLink RJ1 38 Lib.Math.min.name, Cond.static Lib.Math.min.name, Cond.code Lib.Math.min.name Lib.Math.min.code 2 (some .int), Cond.methodLink RJ1 88 yJ1_canEncode_9a6ad, Cond.static yJ1_canEncode_9a6ad, Cond.code yJ1_canEncode_9a6ad cJ1_canEncode_9a6ad 1 (some .boolean), Cond.methodLink RJ1 95 yJ1_indexOfChar_4cfef, Cond.static yJ1_indexOfChar_4cfef, Cond.code yJ1_indexOfChar_4cfef cJ1_indexOfChar_4cfef 6 (some .int), Cond.methodLink RJ0 640 yJ2_indexOf_4cfef, Cond.static yJ2_indexOf_4cfef, Cond.initialized RJ2, Cond.code yJ2_indexOf_4cfef cJ2_indexOf_4cfef 4 (some .int), Cond.methodLink RJ2 224 Lib.Math.max.name, Cond.methodLink RJ2 183 Lib.Math.min.name]
def wsX11_hills_r4 : List Cond := [Cond.constant RJ2 227 (65536), Cond.methodLink RJ2 228 yJ2_indexOfChar_4cfef, Cond.static yJ2_indexOfChar_4cfef, Cond.code yJ2_indexOfChar_4cfef cJ2_indexOfChar_4cfef 4 (some .int), Cond.methodLink RJ2 96 yJ2_checkBoundsBeginEnd_d044e, Cond.static yJ2_checkBoundsBeginEnd_d044e, Cond.code yJ2_checkBoundsBeginEnd_d044e cJ2_checkBoundsBeginEnd_d044e 3 none, Cond.methodLink RJ2 48 yJ2_length_9d52b, Cond.static yJ2_length_9d52b, Cond.code yJ2_length_9d52b cJ2_length_9d52b 1 (some .int), Cond.methodLink RJ2 241 yJ0_checkBoundsBeginEnd_23922, Cond.static yJ0_checkBoundsBeginEnd_23922, Cond.code yJ0_checkBoundsBeginEnd_23922 cJ0_checkBoundsBeginEnd_23922 3 none, Cond.fieldLink RJ0 1053 "jdk/internal/util/Preconditions" "SIOOBE_FORMATTER" "Ljava/util/function/BiFunction;", Cond.methodLink RJ0 1062 yJ3_checkFromToIndex_8c36e, Cond.static yJ3_checkFromToIndex_8c36e, Cond.initialized RJ3, Cond.code yJ3_checkFromToIndex_8c36e cJ3_checkFromToIndex_8c36e 4 (some .int), Cond.methodLink RJ2 244 yJ2_indexOfCharUnsafe_4cfef, Cond.static yJ2_indexOfCharUnsafe_4cfef, Cond.code yJ2_indexOfCharUnsafe_4cfef cJ2_indexOfCharUnsafe_4cfef 5 (some .int), Cond.methodLink RJ2 71 yJ2_getChar_3b067, Cond.static yJ2_getChar_3b067, Cond.code yJ2_getChar_3b067 cJ2_getChar_3b067 2 (some .char)]
def wsX11_hills_r5 : List Cond := [Cond.fieldLink RJ2 44 "java/lang/StringUTF16" "$assertionsDisabled" "Z", Cond.fieldLink RJ2 59 "java/lang/StringUTF16" "HI_BYTE_SHIFT" "I", Cond.fieldLink RJ2 63 "java/lang/StringUTF16" "LO_BYTE_SHIFT" "I", Cond.methodLink RJ2 232 yJ2_indexOfSupplementary_4cfef, Cond.static yJ2_indexOfSupplementary_4cfef, Cond.code yJ2_indexOfSupplementary_4cfef cJ2_indexOfSupplementary_4cfef 7 (some .int), Cond.methodLink RJ2 164 yJ11_isValidCodePoint_9a6ad, Cond.static yJ11_isValidCodePoint_9a6ad, Cond.initialized RJ11, Cond.code yJ11_isValidCodePoint_9a6ad cJ11_isValidCodePoint_9a6ad 2 (some .boolean), Cond.methodLink RJ2 157 yJ11_highSurrogate_5068e, Cond.static yJ11_highSurrogate_5068e, Cond.code yJ11_highSurrogate_5068e cJ11_highSurrogate_5068e 1 (some .char), Cond.constant RJ11 110 (55232), Cond.methodLink RJ2 161 yJ11_lowSurrogate_5068e, Cond.static yJ11_lowSurrogate_5068e, Cond.code yJ11_lowSurrogate_5068e cJ11_lowSurrogate_5068e 1 (some .char), Cond.constant RJ11 76 (56320), Cond.methodLink RX4 27 yX4_behindMark, Cond.static yX4_behindMark, Cond.code yX4_behindMark cX4_behindMark 2 (some .int), Cond.methodLink RX11 80 yX4_clanCount, Cond.instanceMethod yX4_clanCount, Cond.selects RX4 yX4_clanCount yX4_clanCount]
def wsX11_hills_r6 : List Cond := [Cond.code yX4_clanCount cX4_clanCount 1 (some .int), Cond.methodLink RX11 83 yX4_rateDigit, Cond.instanceMethod yX4_rateDigit, Cond.selects RX4 yX4_rateDigit yX4_rateDigit, Cond.code yX4_rateDigit cX4_rateDigit 1 (some .int), Cond.methodLink RX11 86 yX8_begin, Cond.instanceMethod yX8_begin, Cond.selects RX8 yX8_begin yX8_begin, Cond.initialized RX8, Cond.code yX8_begin cX8_begin 3 none, Cond.fieldLink RX8 39 "CowsOwed$Times" "herds" "LCowsOwed$Herds;", Cond.fieldLink RX8 10 "CowsOwed$Times" "weddings" "LCowsOwed$Weddings;", Cond.fieldLink RX8 47 "CowsOwed$Weddings" "size" "I", Cond.fieldLink RX8 19 "CowsOwed$Times" "plans" "LCowsOwed$Plans;", Cond.fieldLink RX8 50 "CowsOwed$Plans" "size" "I", Cond.fieldLink RX8 26 "CowsOwed$Times" "told" "LCowsOwed$Told;", Cond.fieldLink RX8 51 "CowsOwed$Told" "size" "I", Cond.fieldLink RX8 30 "CowsOwed$Times" "years" "I", Cond.methodLink RX8 43 yX2_begin, Cond.instanceMethod yX2_begin, Cond.selects RX2 yX2_begin yX2_begin, Cond.initialized RX2, Cond.code yX2_begin cX2_begin 5 none, Cond.fieldLink RX2 20 "CowsOwed$Herds" "size" "I"]
def wsX11_hills_r7 : List Cond := [Cond.fieldLink RX2 24 "CowsOwed$Herds" "price" "I", Cond.fieldLink RX2 9 "CowsOwed$Herds" "cows" "[I", Cond.fieldLink RX2 17 "CowsOwed$Herds" "debts" "[[I", Cond.methodLink RX11 90 yX4_kindOf, Cond.instanceMethod yX4_kindOf, Cond.selects RX4 yX4_kindOf yX4_kindOf, Cond.code yX4_kindOf cX4_kindOf 2 (some .int), Cond.methodLink RX11 93 yX11_kindAt, Cond.instanceMethod yX11_kindAt, Cond.selects RX11 yX11_kindAt yX11_kindAt, Cond.initialized RX11, Cond.code yX11_kindAt cX11_kindAt 2 (some (.object "CowsOwed$Clan")), Cond.fieldLink RX11 22 "CowsOwed" "kinds" "[LCowsOwed$Clan;", Cond.methodLink RX11 104 yX4_herdOf, Cond.instanceMethod yX4_herdOf, Cond.selects RX4 yX4_herdOf yX4_herdOf, Cond.code yX4_herdOf cX4_herdOf 2 (some .int)]
def wsX11_hills : List Cond := .code yX11_hills cX11_hills 3 (some .int) :: ((wsX11_hills_r1 ++ (wsX11_hills_r2 ++ (wsX11_hills_r3 ++ (wsX11_hills_r4 ++ (wsX11_hills_r5 ++ (wsX11_hills_r6 ++ wsX11_hills_r7)))))) ++ wsX110 ++ wsX80 ++ wsX20 ++ wsX40 ++ wsX100 ++ wsX50 ++ wsX90)
def wsX11_clan_r1 : List Cond := [Cond.fieldLink RX11 43 "CowsOwed" "now" "LCowsOwed$Times;", Cond.fieldLink RX11 97 "CowsOwed$Times" "herds" "LCowsOwed$Herds;", Cond.fieldLink RX11 111 "CowsOwed$Herds" "debts" "[[I", Cond.fieldLink RX11 28 "CowsOwed" "clans" "[LCowsOwed$Clan;", Cond.fieldLink RX11 100 "CowsOwed$Herds" "cows" "[I", Cond.methodLink RX11 107 yX2_knows, Cond.instanceMethod yX2_knows, Cond.selects RX2 yX2_knows yX2_knows, Cond.initialized RX2, Cond.code yX2_knows cX2_knows 2 (some .boolean), Cond.fieldLink RX2 20 "CowsOwed$Herds" "size" "I", Cond.methodLink RX11 115 ⟨"CowsOwed$Clan", "number", "()I"⟩, Cond.sameMethod "CowsOwed$Clan" "CowsOwed$Clan" "number" "()I", Cond.instanceMethod ⟨"CowsOwed$Clan", "number", "()I"⟩, Cond.selects RX0 ⟨"CowsOwed$Clan", "number", "()I"⟩ yX0_number, Cond.instanceMethod yX0_number, Cond.initialized RX0, Cond.code yX0_number cX0_number 1 (some .int), Cond.code yX1_number cX1_number 1 (some .int), Cond.methodLink RX11 115 yX1_number, Cond.instanceMethod yX1_number, Cond.selects RX1 yX1_number yX1_number, Cond.initialized RX1, Cond.selects RX3 ⟨"CowsOwed$Clan", "number", "()I"⟩ yX3_number]
def wsX11_clan_r2 : List Cond := [Cond.instanceMethod yX3_number, Cond.initialized RX3, Cond.code yX3_number cX3_number 1 (some .int), Cond.selects RX6 ⟨"CowsOwed$Clan", "number", "()I"⟩ yX6_number, Cond.instanceMethod yX6_number, Cond.initialized RX6, Cond.code yX6_number cX6_number 1 (some .int), Cond.selects RX7 ⟨"CowsOwed$Clan", "number", "()I"⟩ yX7_number, Cond.instanceMethod yX7_number, Cond.initialized RX7, Cond.code yX7_number cX7_number 1 (some .int), Cond.methodLink RX11 118 yX2_askedBy, Cond.instanceMethod yX2_askedBy, Cond.selects RX2 yX2_askedBy yX2_askedBy, Cond.code yX2_askedBy cX2_askedBy 2 (some .int), Cond.fieldLink RX2 27 "CowsOwed$Herds" "clans" "[LCowsOwed$Clan;", Cond.fieldLink RX2 24 "CowsOwed$Herds" "price" "I", Cond.methodLink RX2 35 ⟨"CowsOwed$Clan", "asks", "(I)I"⟩, Cond.sameMethod "CowsOwed$Clan" "CowsOwed$Clan" "asks" "(I)I", Cond.selects RX0 ⟨"CowsOwed$Clan", "asks", "(I)I"⟩ yX1_asks, Cond.instanceMethod yX1_asks, Cond.code yX1_asks cX1_asks 2 (some .int), Cond.methodLink RX2 35 yX1_asks, Cond.selects RX1 yX1_asks yX1_asks]
def wsX11_clan_r3 : List Cond := [Cond.instanceMethod ⟨"CowsOwed$Clan", "asks", "(I)I"⟩, Cond.selects RX3 ⟨"CowsOwed$Clan", "asks", "(I)I"⟩ yX3_asks, Cond.instanceMethod yX3_asks, Cond.code yX3_asks cX3_asks 2 (some .int), Cond.methodLink RX3 9 yX7_asks, Cond.sameMethod "CowsOwed$Proud" "CowsOwed$Proud" "asks" "(I)I", Cond.superclass RX3 RX7, Cond.instanceMethod yX7_asks, Cond.code yX7_asks cX7_asks 2 (some .int), Cond.selects RX6 ⟨"CowsOwed$Clan", "asks", "(I)I"⟩ yX6_asks, Cond.instanceMethod yX6_asks, Cond.code yX6_asks cX6_asks 2 (some .int), Cond.methodLink RX6 9 Lib.Math.max.name, Cond.static Lib.Math.max.name, Cond.initialized "java/lang/Math", Cond.code Lib.Math.max.name Lib.Math.max.code 2 (some .int), Cond.selects RX7 ⟨"CowsOwed$Clan", "asks", "(I)I"⟩ yX7_asks, Cond.methodLink RX11 121 yX2_sparedBy, Cond.instanceMethod yX2_sparedBy, Cond.selects RX2 yX2_sparedBy yX2_sparedBy, Cond.code yX2_sparedBy cX2_sparedBy 2 (some .int), Cond.fieldLink RX2 9 "CowsOwed$Herds" "cows" "[I", Cond.methodLink RX2 41 ⟨"CowsOwed$Clan", "spares", "(I)I"⟩, Cond.sameMethod "CowsOwed$Clan" "CowsOwed$Clan" "spares" "(I)I"]
def wsX11_clan_r4 : List Cond := [Cond.instanceMethod ⟨"CowsOwed$Clan", "spares", "(I)I"⟩, Cond.selects RX0 ⟨"CowsOwed$Clan", "spares", "(I)I"⟩ yX0_spares, Cond.instanceMethod yX0_spares, Cond.code yX0_spares cX0_spares 2 (some .int), Cond.code yX1_spares cX1_spares 2 (some .int), Cond.methodLink RX2 41 yX1_spares, Cond.instanceMethod yX1_spares, Cond.selects RX1 yX1_spares yX1_spares, Cond.selects RX3 ⟨"CowsOwed$Clan", "spares", "(I)I"⟩ yX1_spares, Cond.selects RX6 ⟨"CowsOwed$Clan", "spares", "(I)I"⟩ yX1_spares, Cond.selects RX7 ⟨"CowsOwed$Clan", "spares", "(I)I"⟩ yX1_spares, Cond.methodLink RX11 124 yX2_owedBy, Cond.instanceMethod yX2_owedBy, Cond.selects RX2 yX2_owedBy yX2_owedBy, Cond.code yX2_owedBy cX2_owedBy 4 (some .int), Cond.fieldLink RX2 17 "CowsOwed$Herds" "debts" "[[I", Cond.methodLink RX11 127 yX2_owedTo, Cond.instanceMethod yX2_owedTo, Cond.selects RX2 yX2_owedTo yX2_owedTo, Cond.code yX2_owedTo cX2_owedTo 4 (some .int)]
def wsX11_clan : List Cond := .code yX11_clan cX11_clan 4 (some .int) :: ((wsX11_clan_r1 ++ (wsX11_clan_r2 ++ (wsX11_clan_r3 ++ wsX11_clan_r4))) ++ wsX110 ++ wsX80 ++ wsX20)
def wsX11_isOfKind : List Cond := .code yX11_isOfKind cX11_isOfKind 2 (some .boolean) :: ([.classLink RX11 10 "CowsOwed$Proud", .classLink RX11 13 "CowsOwed$Poor", .classLink RX11 16 "CowsOwed$Careful", .classLink RX11 19 "CowsOwed$Kings"])
def wsX11_as : List Cond := .code yX11_as cX11_as 3 (some .int) :: ([.fieldLink RX11 43 "CowsOwed" "now" "LCowsOwed$Times;", .fieldLink RX11 97 "CowsOwed$Times" "herds" "LCowsOwed$Herds;", .fieldLink RX11 28 "CowsOwed" "clans" "[LCowsOwed$Clan;", .methodLink RX11 107 yX2_knows, .instanceMethod yX2_knows, .selects RX2 yX2_knows yX2_knows, .initialized RX2, .code yX2_knows cX2_knows 2 (some .boolean), .fieldLink RX2 20 "CowsOwed$Herds" "size" "I", .methodLink RX11 130 yX11_isOfKind, .static yX11_isOfKind, .initialized RX11, .code yX11_isOfKind cX11_isOfKind 2 (some .boolean), .classLink RX11 10 "CowsOwed$Proud", .classLink RX11 13 "CowsOwed$Poor", .classLink RX11 16 "CowsOwed$Careful", .classLink RX11 19 "CowsOwed$Kings"] ++ wsX110 ++ wsX80 ++ wsX20)
def wsX11_isRate : List Cond := .code yX11_isRate cX11_isRate 1 (some .boolean) :: ([])
def wsX11_hasHills : List Cond := .code yX11_hasHills cX11_hasHills 1 (some .boolean) :: ([.fieldLink RX11 43 "CowsOwed" "now" "LCowsOwed$Times;", .fieldLink RX11 97 "CowsOwed$Times" "herds" "LCowsOwed$Herds;", .fieldLink RX11 241 "CowsOwed$Herds" "size" "I"] ++ wsX110 ++ wsX80 ++ wsX20)
def wsX11_rate : List Cond := .code yX11_rate cX11_rate 3 (some .int) :: ([.fieldLink RX11 43 "CowsOwed" "now" "LCowsOwed$Times;", .fieldLink RX11 97 "CowsOwed$Times" "herds" "LCowsOwed$Herds;", .fieldLink RX11 140 "CowsOwed$Herds" "price" "I", .methodLink RX11 134 yX11_isRate, .static yX11_isRate, .initialized RX11, .code yX11_isRate cX11_isRate 1 (some .boolean), .methodLink RX11 137 yX11_hasHills, .instanceMethod yX11_hasHills, .selects RX11 yX11_hasHills yX11_hasHills, .code yX11_hasHills cX11_hasHills 1 (some .boolean), .fieldLink RX11 241 "CowsOwed$Herds" "size" "I"] ++ wsX110 ++ wsX80 ++ wsX20)
def wsX11_wed_r1 : List Cond := [Cond.fieldLink RX11 43 "CowsOwed" "now" "LCowsOwed$Times;", Cond.fieldLink RX11 97 "CowsOwed$Times" "herds" "LCowsOwed$Herds;", Cond.fieldLink RX11 147 "CowsOwed$Times" "weddings" "LCowsOwed$Weddings;", Cond.fieldLink RX11 151 "CowsOwed$Weddings" "size" "I", Cond.methodLink RX11 143 yX2_knowsCouple, Cond.instanceMethod yX2_knowsCouple, Cond.selects RX2 yX2_knowsCouple yX2_knowsCouple, Cond.initialized RX2, Cond.code yX2_knowsCouple cX2_knowsCouple 3 (some .boolean), Cond.methodLink RX2 31 yX2_knows, Cond.instanceMethod yX2_knows, Cond.selects RX2 yX2_knows yX2_knows, Cond.code yX2_knows cX2_knows 2 (some .boolean), Cond.fieldLink RX2 20 "CowsOwed$Herds" "size" "I", Cond.methodLink RX11 154 yX2_marry, Cond.instanceMethod yX2_marry, Cond.selects RX2 yX2_marry yX2_marry, Cond.code yX2_marry cX2_marry 4 (some .int), Cond.fieldLink RX2 27 "CowsOwed$Herds" "clans" "[LCowsOwed$Clan;", Cond.fieldLink RX2 24 "CowsOwed$Herds" "price" "I", Cond.methodLink RX2 35 ⟨"CowsOwed$Clan", "asks", "(I)I"⟩, Cond.sameMethod "CowsOwed$Clan" "CowsOwed$Clan" "asks" "(I)I", Cond.selects RX0 ⟨"CowsOwed$Clan", "asks", "(I)I"⟩ yX1_asks, Cond.instanceMethod yX1_asks]
def wsX11_wed_r2 : List Cond := [Cond.initialized RX1, Cond.code yX1_asks cX1_asks 2 (some .int), Cond.methodLink RX2 35 yX1_asks, Cond.selects RX1 yX1_asks yX1_asks, Cond.instanceMethod ⟨"CowsOwed$Clan", "asks", "(I)I"⟩, Cond.selects RX3 ⟨"CowsOwed$Clan", "asks", "(I)I"⟩ yX3_asks, Cond.instanceMethod yX3_asks, Cond.initialized RX3, Cond.code yX3_asks cX3_asks 2 (some .int), Cond.methodLink RX3 9 yX7_asks, Cond.sameMethod "CowsOwed$Proud" "CowsOwed$Proud" "asks" "(I)I", Cond.superclass RX3 RX7, Cond.instanceMethod yX7_asks, Cond.initialized RX7, Cond.code yX7_asks cX7_asks 2 (some .int), Cond.selects RX6 ⟨"CowsOwed$Clan", "asks", "(I)I"⟩ yX6_asks, Cond.instanceMethod yX6_asks, Cond.initialized RX6, Cond.code yX6_asks cX6_asks 2 (some .int), Cond.methodLink RX6 9 Lib.Math.max.name, Cond.static Lib.Math.max.name, Cond.initialized "java/lang/Math", Cond.code Lib.Math.max.name Lib.Math.max.code 2 (some .int), Cond.selects RX7 ⟨"CowsOwed$Clan", "asks", "(I)I"⟩ yX7_asks]
def wsX11_wed_r3 : List Cond := [Cond.methodLink RX2 44 yX2_pay, Cond.instanceMethod yX2_pay, Cond.selects RX2 yX2_pay yX2_pay, Cond.code yX2_pay cX2_pay 5 (some .int), Cond.fieldLink RX2 9 "CowsOwed$Herds" "cows" "[I", Cond.methodLink RX2 48 Lib.Math.min.name, Cond.static Lib.Math.min.name, Cond.code Lib.Math.min.name Lib.Math.min.code 2 (some .int), Cond.fieldLink RX2 17 "CowsOwed$Herds" "debts" "[[I", Cond.methodLink RX2 41 ⟨"CowsOwed$Clan", "spares", "(I)I"⟩, Cond.sameMethod "CowsOwed$Clan" "CowsOwed$Clan" "spares" "(I)I", Cond.instanceMethod ⟨"CowsOwed$Clan", "spares", "(I)I"⟩, Cond.selects RX0 ⟨"CowsOwed$Clan", "spares", "(I)I"⟩ yX0_spares, Cond.instanceMethod yX0_spares, Cond.initialized RX0, Cond.code yX0_spares cX0_spares 2 (some .int), Cond.code yX1_spares cX1_spares 2 (some .int), Cond.methodLink RX2 41 yX1_spares, Cond.instanceMethod yX1_spares, Cond.selects RX1 yX1_spares yX1_spares, Cond.selects RX3 ⟨"CowsOwed$Clan", "spares", "(I)I"⟩ yX1_spares, Cond.selects RX6 ⟨"CowsOwed$Clan", "spares", "(I)I"⟩ yX1_spares, Cond.selects RX7 ⟨"CowsOwed$Clan", "spares", "(I)I"⟩ yX1_spares, Cond.methodLink RX11 158 yX10_note]
def wsX11_wed_r4 : List Cond := [Cond.instanceMethod yX10_note, Cond.selects RX10 yX10_note yX10_note, Cond.initialized RX10, Cond.code yX10_note cX10_note 4 (some .int), Cond.fieldLink RX10 9 "CowsOwed$Weddings" "his" "[I", Cond.fieldLink RX10 24 "CowsOwed$Weddings" "size" "I", Cond.fieldLink RX10 15 "CowsOwed$Weddings" "hers" "[I", Cond.fieldLink RX10 18 "CowsOwed$Weddings" "asked" "[I", Cond.fieldLink RX10 21 "CowsOwed$Weddings" "undone" "[I"]
def wsX11_wed : List Cond := .code yX11_wed cX11_wed 4 (some .int) :: ((wsX11_wed_r1 ++ (wsX11_wed_r2 ++ (wsX11_wed_r3 ++ wsX11_wed_r4))) ++ wsX110 ++ wsX80 ++ wsX100 ++ wsX20)
def wsX11_wedding : List Cond := .code yX11_wedding cX11_wedding 4 (some .int) :: ([.fieldLink RX11 43 "CowsOwed" "now" "LCowsOwed$Times;", .fieldLink RX11 147 "CowsOwed$Times" "weddings" "LCowsOwed$Weddings;", .fieldLink RX11 163 "CowsOwed$Weddings" "his" "[I", .fieldLink RX11 166 "CowsOwed$Weddings" "hers" "[I", .fieldLink RX11 169 "CowsOwed$Weddings" "asked" "[I", .fieldLink RX11 172 "CowsOwed$Weddings" "undone" "[I", .methodLink RX11 162 yX10_knows, .instanceMethod yX10_knows, .selects RX10 yX10_knows yX10_knows, .initialized RX10, .code yX10_knows cX10_knows 2 (some .boolean), .fieldLink RX10 24 "CowsOwed$Weddings" "size" "I"] ++ wsX110 ++ wsX80 ++ wsX100)
def wsX11_divorce_r1 : List Cond := [Cond.fieldLink RX11 43 "CowsOwed" "now" "LCowsOwed$Times;", Cond.fieldLink RX11 147 "CowsOwed$Times" "weddings" "LCowsOwed$Weddings;", Cond.fieldLink RX11 172 "CowsOwed$Weddings" "undone" "[I", Cond.fieldLink RX11 97 "CowsOwed$Times" "herds" "LCowsOwed$Herds;", Cond.fieldLink RX11 166 "CowsOwed$Weddings" "hers" "[I", Cond.fieldLink RX11 163 "CowsOwed$Weddings" "his" "[I", Cond.fieldLink RX11 169 "CowsOwed$Weddings" "asked" "[I", Cond.methodLink RX11 162 yX10_knows, Cond.instanceMethod yX10_knows, Cond.selects RX10 yX10_knows yX10_knows, Cond.initialized RX10, Cond.code yX10_knows cX10_knows 2 (some .boolean), Cond.fieldLink RX10 24 "CowsOwed$Weddings" "size" "I", Cond.methodLink RX11 175 yX2_pay, Cond.instanceMethod yX2_pay, Cond.selects RX2 yX2_pay yX2_pay, Cond.initialized RX2, Cond.code yX2_pay cX2_pay 5 (some .int), Cond.fieldLink RX2 27 "CowsOwed$Herds" "clans" "[LCowsOwed$Clan;", Cond.fieldLink RX2 9 "CowsOwed$Herds" "cows" "[I", Cond.methodLink RX2 48 Lib.Math.min.name, Cond.static Lib.Math.min.name, Cond.initialized "java/lang/Math", Cond.code Lib.Math.min.name Lib.Math.min.code 2 (some .int)]
def wsX11_divorce_r2 : List Cond := [Cond.fieldLink RX2 17 "CowsOwed$Herds" "debts" "[[I", Cond.methodLink RX2 41 ⟨"CowsOwed$Clan", "spares", "(I)I"⟩, Cond.sameMethod "CowsOwed$Clan" "CowsOwed$Clan" "spares" "(I)I", Cond.instanceMethod ⟨"CowsOwed$Clan", "spares", "(I)I"⟩, Cond.selects RX0 ⟨"CowsOwed$Clan", "spares", "(I)I"⟩ yX0_spares, Cond.instanceMethod yX0_spares, Cond.initialized RX0, Cond.code yX0_spares cX0_spares 2 (some .int), Cond.code yX1_spares cX1_spares 2 (some .int), Cond.methodLink RX2 41 yX1_spares, Cond.instanceMethod yX1_spares, Cond.selects RX1 yX1_spares yX1_spares, Cond.initialized RX1, Cond.selects RX3 ⟨"CowsOwed$Clan", "spares", "(I)I"⟩ yX1_spares, Cond.selects RX6 ⟨"CowsOwed$Clan", "spares", "(I)I"⟩ yX1_spares, Cond.selects RX7 ⟨"CowsOwed$Clan", "spares", "(I)I"⟩ yX1_spares]
def wsX11_divorce : List Cond := .code yX11_divorce cX11_divorce 3 (some .int) :: ((wsX11_divorce_r1 ++ wsX11_divorce_r2) ++ wsX110 ++ wsX80 ++ wsX100 ++ wsX20)
def wsX11_year_r1 : List Cond := [Cond.fieldLink RX11 43 "CowsOwed" "now" "LCowsOwed$Times;", Cond.fieldLink RX11 97 "CowsOwed$Times" "herds" "LCowsOwed$Herds;", Cond.fieldLink RX11 181 "CowsOwed$Times" "years" "I", Cond.methodLink RX11 137 yX11_hasHills, Cond.instanceMethod yX11_hasHills, Cond.selects RX11 yX11_hasHills yX11_hasHills, Cond.initialized RX11, Cond.code yX11_hasHills cX11_hasHills 1 (some .boolean), Cond.fieldLink RX11 241 "CowsOwed$Herds" "size" "I", Cond.methodLink RX11 178 yX2_passYear, Cond.instanceMethod yX2_passYear, Cond.selects RX2 yX2_passYear yX2_passYear, Cond.initialized RX2, Cond.code yX2_passYear cX2_passYear 3 none, Cond.fieldLink RX2 20 "CowsOwed$Herds" "size" "I", Cond.fieldLink RX2 9 "CowsOwed$Herds" "cows" "[I", Cond.methodLink RX2 54 yX2_grown, Cond.static yX2_grown, Cond.code yX2_grown cX2_grown 1 (some .int), Cond.methodLink RX2 48 Lib.Math.min.name, Cond.static Lib.Math.min.name, Cond.initialized "java/lang/Math", Cond.code Lib.Math.min.name Lib.Math.min.code 2 (some .int), Cond.methodLink RX2 61 Lib.Math.max.name]
def wsX11_year_r2 : List Cond := [Cond.static Lib.Math.max.name, Cond.code Lib.Math.max.name Lib.Math.max.code 2 (some .int), Cond.methodLink RX2 57 yX2_payDebt, Cond.instanceMethod yX2_payDebt, Cond.selects RX2 yX2_payDebt yX2_payDebt, Cond.code yX2_payDebt cX2_payDebt 4 none, Cond.fieldLink RX2 17 "CowsOwed$Herds" "debts" "[[I", Cond.methodLink RX2 44 yX2_pay, Cond.instanceMethod yX2_pay, Cond.selects RX2 yX2_pay yX2_pay, Cond.code yX2_pay cX2_pay 5 (some .int), Cond.fieldLink RX2 27 "CowsOwed$Herds" "clans" "[LCowsOwed$Clan;", Cond.methodLink RX2 41 ⟨"CowsOwed$Clan", "spares", "(I)I"⟩, Cond.sameMethod "CowsOwed$Clan" "CowsOwed$Clan" "spares" "(I)I", Cond.instanceMethod ⟨"CowsOwed$Clan", "spares", "(I)I"⟩, Cond.selects RX0 ⟨"CowsOwed$Clan", "spares", "(I)I"⟩ yX0_spares, Cond.instanceMethod yX0_spares, Cond.initialized RX0, Cond.code yX0_spares cX0_spares 2 (some .int), Cond.code yX1_spares cX1_spares 2 (some .int), Cond.methodLink RX2 41 yX1_spares, Cond.instanceMethod yX1_spares, Cond.selects RX1 yX1_spares yX1_spares, Cond.initialized RX1]
def wsX11_year_r3 : List Cond := [Cond.selects RX3 ⟨"CowsOwed$Clan", "spares", "(I)I"⟩ yX1_spares, Cond.selects RX6 ⟨"CowsOwed$Clan", "spares", "(I)I"⟩ yX1_spares, Cond.selects RX7 ⟨"CowsOwed$Clan", "spares", "(I)I"⟩ yX1_spares, Cond.methodLink RX11 184 yX2_allOwed, Cond.instanceMethod yX2_allOwed, Cond.selects RX2 yX2_allOwed yX2_allOwed, Cond.code yX2_allOwed cX2_allOwed 3 (some .int), Cond.methodLink RX2 64 yX2_owedBy, Cond.instanceMethod yX2_owedBy, Cond.selects RX2 yX2_owedBy yX2_owedBy, Cond.code yX2_owedBy cX2_owedBy 4 (some .int)]
def wsX11_year : List Cond := .code yX11_year cX11_year 1 (some .int) :: ((wsX11_year_r1 ++ (wsX11_year_r2 ++ wsX11_year_r3)) ++ wsX110 ++ wsX80 ++ wsX20)
def wsX11_settled_r1 : List Cond := [Cond.fieldLink RX11 43 "CowsOwed" "now" "LCowsOwed$Times;", Cond.fieldLink RX11 97 "CowsOwed$Times" "herds" "LCowsOwed$Herds;", Cond.methodLink RX11 137 yX11_hasHills, Cond.instanceMethod yX11_hasHills, Cond.selects RX11 yX11_hasHills yX11_hasHills, Cond.initialized RX11, Cond.code yX11_hasHills cX11_hasHills 1 (some .boolean), Cond.fieldLink RX11 241 "CowsOwed$Herds" "size" "I", Cond.methodLink RX11 187 yX2_leastLed, Cond.instanceMethod yX2_leastLed, Cond.selects RX2 yX2_leastLed yX2_leastLed, Cond.initialized RX2, Cond.code yX2_leastLed cX2_leastLed 3 (some .int), Cond.fieldLink RX2 20 "CowsOwed$Herds" "size" "I", Cond.methodLink RX2 61 Lib.Math.max.name, Cond.static Lib.Math.max.name, Cond.initialized "java/lang/Math", Cond.code Lib.Math.max.name Lib.Math.max.code 2 (some .int), Cond.methodLink RX2 67 yX2_owedTo, Cond.instanceMethod yX2_owedTo, Cond.selects RX2 yX2_owedTo yX2_owedTo, Cond.code yX2_owedTo cX2_owedTo 4 (some .int), Cond.fieldLink RX2 17 "CowsOwed$Herds" "debts" "[[I", Cond.methodLink RX2 64 yX2_owedBy]
def wsX11_settled_r2 : List Cond := [Cond.instanceMethod yX2_owedBy, Cond.selects RX2 yX2_owedBy yX2_owedBy, Cond.code yX2_owedBy cX2_owedBy 4 (some .int)]
def wsX11_settled : List Cond := .code yX11_settled cX11_settled 1 (some .int) :: ((wsX11_settled_r1 ++ wsX11_settled_r2) ++ wsX110 ++ wsX80 ++ wsX20)
def wsX11_plan : List Cond := .code yX11_plan cX11_plan 3 (some .int) :: ([.fieldLink RX11 43 "CowsOwed" "now" "LCowsOwed$Times;", .fieldLink RX11 97 "CowsOwed$Times" "herds" "LCowsOwed$Herds;", .fieldLink RX11 190 "CowsOwed$Times" "plans" "LCowsOwed$Plans;", .fieldLink RX11 194 "CowsOwed$Plans" "size" "I", .methodLink RX11 143 yX2_knowsCouple, .instanceMethod yX2_knowsCouple, .selects RX2 yX2_knowsCouple yX2_knowsCouple, .initialized RX2, .code yX2_knowsCouple cX2_knowsCouple 3 (some .boolean), .methodLink RX2 31 yX2_knows, .instanceMethod yX2_knows, .selects RX2 yX2_knows yX2_knows, .code yX2_knows cX2_knows 2 (some .boolean), .fieldLink RX2 20 "CowsOwed$Herds" "size" "I", .methodLink RX11 197 yX5_note, .instanceMethod yX5_note, .selects RX5 yX5_note yX5_note, .initialized RX5, .code yX5_note cX5_note 3 (some .int), .fieldLink RX5 9 "CowsOwed$Plans" "his" "[I", .fieldLink RX5 24 "CowsOwed$Plans" "size" "I", .fieldLink RX5 15 "CowsOwed$Plans" "hers" "[I"] ++ wsX110 ++ wsX80 ++ wsX50 ++ wsX20)
def wsX11_dream : List Cond := .code yX11_dream cX11_dream 2 (some .int) :: ([.fieldLink RX11 43 "CowsOwed" "now" "LCowsOwed$Times;", .fieldLink RX11 190 "CowsOwed$Times" "plans" "LCowsOwed$Plans;", .fieldLink RX11 194 "CowsOwed$Plans" "size" "I"] ++ wsX110 ++ wsX80 ++ wsX50)
def wsX11_order_r1 : List Cond := [Cond.fieldLink RX11 43 "CowsOwed" "now" "LCowsOwed$Times;", Cond.fieldLink RX11 190 "CowsOwed$Times" "plans" "LCowsOwed$Plans;", Cond.fieldLink RX11 97 "CowsOwed$Times" "herds" "LCowsOwed$Herds;", Cond.fieldLink RX11 53 "CowsOwed" "trial" "LCowsOwed$Herds;", Cond.fieldLink RX11 206 "CowsOwed$Plans" "leastOwed" "I", Cond.methodLink RX11 137 yX11_hasHills, Cond.instanceMethod yX11_hasHills, Cond.selects RX11 yX11_hasHills yX11_hasHills, Cond.initialized RX11, Cond.code yX11_hasHills cX11_hasHills 1 (some .boolean), Cond.fieldLink RX11 241 "CowsOwed$Herds" "size" "I", Cond.methodLink RX11 199 yX5_findOrder, Cond.instanceMethod yX5_findOrder, Cond.selects RX5 yX5_findOrder yX5_findOrder, Cond.initialized RX5, Cond.code yX5_findOrder cX5_findOrder 6 none, Cond.fieldLink RX5 28 "CowsOwed$Plans" "leastOwed" "I", Cond.fieldLink RX5 18 "CowsOwed$Plans" "tried" "[I", Cond.fieldLink RX5 21 "CowsOwed$Plans" "best" "[I", Cond.methodLink RX5 47 arraycopyName, Cond.native arraycopyName, Cond.static arraycopyName, Cond.initialized "java/lang/System", Cond.methodLink RX5 31 yX5_startOrders]
def wsX11_order_r2 : List Cond := [Cond.instanceMethod yX5_startOrders, Cond.selects RX5 yX5_startOrders yX5_startOrders, Cond.code yX5_startOrders cX5_startOrders 2 none, Cond.methodLink RX5 34 yX2_copyFrom, Cond.instanceMethod yX2_copyFrom, Cond.selects RX2 yX2_copyFrom yX2_copyFrom, Cond.initialized RX2, Cond.code yX2_copyFrom cX2_copyFrom 4 none, Cond.fieldLink RX2 20 "CowsOwed$Herds" "size" "I", Cond.fieldLink RX2 24 "CowsOwed$Herds" "price" "I", Cond.fieldLink RX2 9 "CowsOwed$Herds" "cows" "[I", Cond.fieldLink RX2 17 "CowsOwed$Herds" "debts" "[[I", Cond.methodLink RX5 40 yX5_marryInOrder, Cond.instanceMethod yX5_marryInOrder, Cond.selects RX5 yX5_marryInOrder yX5_marryInOrder, Cond.code yX5_marryInOrder cX5_marryInOrder 4 none, Cond.fieldLink RX5 24 "CowsOwed$Plans" "size" "I", Cond.fieldLink RX5 9 "CowsOwed$Plans" "his" "[I", Cond.fieldLink RX5 15 "CowsOwed$Plans" "hers" "[I", Cond.methodLink RX5 57 yX2_marry, Cond.instanceMethod yX2_marry, Cond.selects RX2 yX2_marry yX2_marry, Cond.code yX2_marry cX2_marry 4 (some .int), Cond.fieldLink RX2 27 "CowsOwed$Herds" "clans" "[LCowsOwed$Clan;"]
def wsX11_order_r3 : List Cond := [Cond.methodLink RX2 35 ⟨"CowsOwed$Clan", "asks", "(I)I"⟩, Cond.sameMethod "CowsOwed$Clan" "CowsOwed$Clan" "asks" "(I)I", Cond.selects RX0 ⟨"CowsOwed$Clan", "asks", "(I)I"⟩ yX1_asks, Cond.instanceMethod yX1_asks, Cond.initialized RX1, Cond.code yX1_asks cX1_asks 2 (some .int), Cond.methodLink RX2 35 yX1_asks, Cond.selects RX1 yX1_asks yX1_asks, Cond.instanceMethod ⟨"CowsOwed$Clan", "asks", "(I)I"⟩, Cond.selects RX3 ⟨"CowsOwed$Clan", "asks", "(I)I"⟩ yX3_asks, Cond.instanceMethod yX3_asks, Cond.initialized RX3, Cond.code yX3_asks cX3_asks 2 (some .int), Cond.methodLink RX3 9 yX7_asks, Cond.sameMethod "CowsOwed$Proud" "CowsOwed$Proud" "asks" "(I)I", Cond.superclass RX3 RX7, Cond.instanceMethod yX7_asks, Cond.initialized RX7, Cond.code yX7_asks cX7_asks 2 (some .int), Cond.selects RX6 ⟨"CowsOwed$Clan", "asks", "(I)I"⟩ yX6_asks, Cond.instanceMethod yX6_asks, Cond.initialized RX6, Cond.code yX6_asks cX6_asks 2 (some .int), Cond.methodLink RX6 9 Lib.Math.max.name]
def wsX11_order_r4 : List Cond := [Cond.static Lib.Math.max.name, Cond.initialized "java/lang/Math", Cond.code Lib.Math.max.name Lib.Math.max.code 2 (some .int), Cond.selects RX7 ⟨"CowsOwed$Clan", "asks", "(I)I"⟩ yX7_asks, Cond.methodLink RX2 44 yX2_pay, Cond.instanceMethod yX2_pay, Cond.selects RX2 yX2_pay yX2_pay, Cond.code yX2_pay cX2_pay 5 (some .int), Cond.methodLink RX2 48 Lib.Math.min.name, Cond.static Lib.Math.min.name, Cond.code Lib.Math.min.name Lib.Math.min.code 2 (some .int), Cond.methodLink RX2 41 ⟨"CowsOwed$Clan", "spares", "(I)I"⟩, Cond.sameMethod "CowsOwed$Clan" "CowsOwed$Clan" "spares" "(I)I", Cond.instanceMethod ⟨"CowsOwed$Clan", "spares", "(I)I"⟩, Cond.selects RX0 ⟨"CowsOwed$Clan", "spares", "(I)I"⟩ yX0_spares, Cond.instanceMethod yX0_spares, Cond.initialized RX0, Cond.code yX0_spares cX0_spares 2 (some .int), Cond.code yX1_spares cX1_spares 2 (some .int), Cond.methodLink RX2 41 yX1_spares, Cond.instanceMethod yX1_spares, Cond.selects RX1 yX1_spares yX1_spares, Cond.selects RX3 ⟨"CowsOwed$Clan", "spares", "(I)I"⟩ yX1_spares, Cond.selects RX6 ⟨"CowsOwed$Clan", "spares", "(I)I"⟩ yX1_spares]
def wsX11_order_r5 : List Cond := [Cond.selects RX7 ⟨"CowsOwed$Clan", "spares", "(I)I"⟩ yX1_spares, Cond.methodLink RX5 43 yX2_allOwed, Cond.instanceMethod yX2_allOwed, Cond.selects RX2 yX2_allOwed yX2_allOwed, Cond.code yX2_allOwed cX2_allOwed 3 (some .int), Cond.methodLink RX2 64 yX2_owedBy, Cond.instanceMethod yX2_owedBy, Cond.selects RX2 yX2_owedBy yX2_owedBy, Cond.code yX2_owedBy cX2_owedBy 4 (some .int), Cond.methodLink RX5 53 yX5_nextOrder, Cond.instanceMethod yX5_nextOrder, Cond.selects RX5 yX5_nextOrder yX5_nextOrder, Cond.code yX5_nextOrder cX5_nextOrder 5 (some .boolean), Cond.methodLink RX5 61 yX5_swapTried, Cond.instanceMethod yX5_swapTried, Cond.selects RX5 yX5_swapTried yX5_swapTried, Cond.code yX5_swapTried cX5_swapTried 4 none, Cond.methodLink RX11 203 yX5_bestAt, Cond.instanceMethod yX5_bestAt, Cond.selects RX5 yX5_bestAt yX5_bestAt, Cond.code yX5_bestAt cX5_bestAt 2 (some .int)]
def wsX11_order : List Cond := .code yX11_order cX11_order 3 (some .int) :: ((wsX11_order_r1 ++ (wsX11_order_r2 ++ (wsX11_order_r3 ++ (wsX11_order_r4 ++ wsX11_order_r5)))) ++ wsX110 ++ wsX80 ++ wsX50 ++ wsX20)
def wsX11_high_r1 : List Cond := [Cond.fieldLink RX11 43 "CowsOwed" "now" "LCowsOwed$Times;", Cond.fieldLink RX11 190 "CowsOwed$Times" "plans" "LCowsOwed$Plans;", Cond.fieldLink RX11 97 "CowsOwed$Times" "herds" "LCowsOwed$Herds;", Cond.fieldLink RX11 53 "CowsOwed" "trial" "LCowsOwed$Herds;", Cond.methodLink RX11 137 yX11_hasHills, Cond.instanceMethod yX11_hasHills, Cond.selects RX11 yX11_hasHills yX11_hasHills, Cond.initialized RX11, Cond.code yX11_hasHills cX11_hasHills 1 (some .boolean), Cond.fieldLink RX11 241 "CowsOwed$Herds" "size" "I", Cond.methodLink RX11 209 yX5_highestRate, Cond.instanceMethod yX5_highestRate, Cond.selects RX5 yX5_highestRate yX5_highestRate, Cond.initialized RX5, Cond.code yX5_highestRate cX5_highestRate 4 (some .int), Cond.fieldLink RX5 65 "CowsOwed$Herds" "price" "I", Cond.methodLink RX5 31 yX5_startOrders, Cond.instanceMethod yX5_startOrders, Cond.selects RX5 yX5_startOrders yX5_startOrders, Cond.code yX5_startOrders cX5_startOrders 2 none, Cond.fieldLink RX5 18 "CowsOwed$Plans" "tried" "[I", Cond.methodLink RX5 34 yX2_copyFrom, Cond.instanceMethod yX2_copyFrom, Cond.selects RX2 yX2_copyFrom yX2_copyFrom]
def wsX11_high_r2 : List Cond := [Cond.initialized RX2, Cond.code yX2_copyFrom cX2_copyFrom 4 none, Cond.fieldLink RX2 20 "CowsOwed$Herds" "size" "I", Cond.fieldLink RX2 24 "CowsOwed$Herds" "price" "I", Cond.fieldLink RX2 9 "CowsOwed$Herds" "cows" "[I", Cond.fieldLink RX2 17 "CowsOwed$Herds" "debts" "[[I", Cond.methodLink RX5 40 yX5_marryInOrder, Cond.instanceMethod yX5_marryInOrder, Cond.selects RX5 yX5_marryInOrder yX5_marryInOrder, Cond.code yX5_marryInOrder cX5_marryInOrder 4 none, Cond.fieldLink RX5 24 "CowsOwed$Plans" "size" "I", Cond.fieldLink RX5 9 "CowsOwed$Plans" "his" "[I", Cond.fieldLink RX5 15 "CowsOwed$Plans" "hers" "[I", Cond.methodLink RX5 57 yX2_marry, Cond.instanceMethod yX2_marry, Cond.selects RX2 yX2_marry yX2_marry, Cond.code yX2_marry cX2_marry 4 (some .int), Cond.fieldLink RX2 27 "CowsOwed$Herds" "clans" "[LCowsOwed$Clan;", Cond.methodLink RX2 35 ⟨"CowsOwed$Clan", "asks", "(I)I"⟩, Cond.sameMethod "CowsOwed$Clan" "CowsOwed$Clan" "asks" "(I)I", Cond.selects RX0 ⟨"CowsOwed$Clan", "asks", "(I)I"⟩ yX1_asks, Cond.instanceMethod yX1_asks, Cond.initialized RX1, Cond.code yX1_asks cX1_asks 2 (some .int)]
def wsX11_high_r3 : List Cond := [Cond.methodLink RX2 35 yX1_asks, Cond.selects RX1 yX1_asks yX1_asks, Cond.instanceMethod ⟨"CowsOwed$Clan", "asks", "(I)I"⟩, Cond.selects RX3 ⟨"CowsOwed$Clan", "asks", "(I)I"⟩ yX3_asks, Cond.instanceMethod yX3_asks, Cond.initialized RX3, Cond.code yX3_asks cX3_asks 2 (some .int), Cond.methodLink RX3 9 yX7_asks, Cond.sameMethod "CowsOwed$Proud" "CowsOwed$Proud" "asks" "(I)I", Cond.superclass RX3 RX7, Cond.instanceMethod yX7_asks, Cond.initialized RX7, Cond.code yX7_asks cX7_asks 2 (some .int), Cond.selects RX6 ⟨"CowsOwed$Clan", "asks", "(I)I"⟩ yX6_asks, Cond.instanceMethod yX6_asks, Cond.initialized RX6, Cond.code yX6_asks cX6_asks 2 (some .int), Cond.methodLink RX6 9 Lib.Math.max.name, Cond.static Lib.Math.max.name, Cond.initialized "java/lang/Math", Cond.code Lib.Math.max.name Lib.Math.max.code 2 (some .int), Cond.selects RX7 ⟨"CowsOwed$Clan", "asks", "(I)I"⟩ yX7_asks, Cond.methodLink RX2 44 yX2_pay, Cond.instanceMethod yX2_pay]
def wsX11_high_r4 : List Cond := [Cond.selects RX2 yX2_pay yX2_pay, Cond.code yX2_pay cX2_pay 5 (some .int), Cond.methodLink RX2 48 Lib.Math.min.name, Cond.static Lib.Math.min.name, Cond.code Lib.Math.min.name Lib.Math.min.code 2 (some .int), Cond.methodLink RX2 41 ⟨"CowsOwed$Clan", "spares", "(I)I"⟩, Cond.sameMethod "CowsOwed$Clan" "CowsOwed$Clan" "spares" "(I)I", Cond.instanceMethod ⟨"CowsOwed$Clan", "spares", "(I)I"⟩, Cond.selects RX0 ⟨"CowsOwed$Clan", "spares", "(I)I"⟩ yX0_spares, Cond.instanceMethod yX0_spares, Cond.initialized RX0, Cond.code yX0_spares cX0_spares 2 (some .int), Cond.code yX1_spares cX1_spares 2 (some .int), Cond.methodLink RX2 41 yX1_spares, Cond.instanceMethod yX1_spares, Cond.selects RX1 yX1_spares yX1_spares, Cond.selects RX3 ⟨"CowsOwed$Clan", "spares", "(I)I"⟩ yX1_spares, Cond.selects RX6 ⟨"CowsOwed$Clan", "spares", "(I)I"⟩ yX1_spares, Cond.selects RX7 ⟨"CowsOwed$Clan", "spares", "(I)I"⟩ yX1_spares, Cond.methodLink RX5 68 yX5_owesMore, Cond.static yX5_owesMore, Cond.code yX5_owesMore cX5_owesMore 3 (some .boolean), Cond.fieldLink RX5 72 "CowsOwed$Herds" "size" "I", Cond.methodLink RX5 73 yX2_owedBy]
def wsX11_high_r5 : List Cond := [Cond.instanceMethod yX2_owedBy, Cond.selects RX2 yX2_owedBy yX2_owedBy, Cond.code yX2_owedBy cX2_owedBy 4 (some .int)]
def wsX11_high : List Cond := .code yX11_high cX11_high 1 (some .int) :: ((wsX11_high_r1 ++ (wsX11_high_r2 ++ (wsX11_high_r3 ++ (wsX11_high_r4 ++ wsX11_high_r5)))) ++ wsX110 ++ wsX80 ++ wsX20 ++ wsX50)
def wsX11_tell : List Cond := .code yX11_tell cX11_tell 3 (some .int) :: ([.fieldLink RX11 43 "CowsOwed" "now" "LCowsOwed$Times;", .fieldLink RX11 213 "CowsOwed$Times" "told" "LCowsOwed$Told;", .fieldLink RX11 217 "CowsOwed$Told" "size" "I", .methodLink RX11 134 yX11_isRate, .static yX11_isRate, .initialized RX11, .code yX11_isRate cX11_isRate 1 (some .boolean), .methodLink RX11 220 yX9_note, .instanceMethod yX9_note, .selects RX9 yX9_note yX9_note, .initialized RX9, .code yX9_note cX9_note 3 (some .int), .fieldLink RX9 9 "CowsOwed$Told" "rates" "[I", .fieldLink RX9 18 "CowsOwed$Told" "size" "I", .fieldLink RX9 15 "CowsOwed$Told" "asked" "[I"] ++ wsX110 ++ wsX80 ++ wsX90)
def wsX11_forget : List Cond := .code yX11_forget cX11_forget 2 (some .int) :: ([.fieldLink RX11 43 "CowsOwed" "now" "LCowsOwed$Times;", .fieldLink RX11 213 "CowsOwed$Times" "told" "LCowsOwed$Told;", .fieldLink RX11 217 "CowsOwed$Told" "size" "I"] ++ wsX110 ++ wsX80 ++ wsX90)
def wsX11_which_r1 : List Cond := [Cond.fieldLink RX11 43 "CowsOwed" "now" "LCowsOwed$Times;", Cond.fieldLink RX11 213 "CowsOwed$Times" "told" "LCowsOwed$Told;", Cond.fieldLink RX11 22 "CowsOwed" "kinds" "[LCowsOwed$Clan;", Cond.methodLink RX11 221 yX9_kindsLeft, Cond.instanceMethod yX9_kindsLeft, Cond.selects RX9 yX9_kindsLeft yX9_kindsLeft, Cond.initialized RX9, Cond.code yX9_kindsLeft cX9_kindsLeft 4 (some .int), Cond.methodLink RX9 22 yX9_canBe, Cond.instanceMethod yX9_canBe, Cond.selects RX9 yX9_canBe yX9_canBe, Cond.code yX9_canBe cX9_canBe 3 (some .boolean), Cond.fieldLink RX9 18 "CowsOwed$Told" "size" "I", Cond.fieldLink RX9 9 "CowsOwed$Told" "rates" "[I", Cond.fieldLink RX9 15 "CowsOwed$Told" "asked" "[I", Cond.methodLink RX9 26 ⟨"CowsOwed$Clan", "asks", "(I)I"⟩, Cond.sameMethod "CowsOwed$Clan" "CowsOwed$Clan" "asks" "(I)I", Cond.selects RX0 ⟨"CowsOwed$Clan", "asks", "(I)I"⟩ yX1_asks, Cond.instanceMethod yX1_asks, Cond.initialized RX1, Cond.code yX1_asks cX1_asks 2 (some .int), Cond.methodLink RX9 26 yX1_asks, Cond.selects RX1 yX1_asks yX1_asks, Cond.instanceMethod ⟨"CowsOwed$Clan", "asks", "(I)I"⟩]
def wsX11_which_r2 : List Cond := [Cond.selects RX3 ⟨"CowsOwed$Clan", "asks", "(I)I"⟩ yX3_asks, Cond.instanceMethod yX3_asks, Cond.initialized RX3, Cond.code yX3_asks cX3_asks 2 (some .int), Cond.methodLink RX3 9 yX7_asks, Cond.sameMethod "CowsOwed$Proud" "CowsOwed$Proud" "asks" "(I)I", Cond.superclass RX3 RX7, Cond.instanceMethod yX7_asks, Cond.initialized RX7, Cond.code yX7_asks cX7_asks 2 (some .int), Cond.selects RX6 ⟨"CowsOwed$Clan", "asks", "(I)I"⟩ yX6_asks, Cond.instanceMethod yX6_asks, Cond.initialized RX6, Cond.code yX6_asks cX6_asks 2 (some .int), Cond.methodLink RX6 9 Lib.Math.max.name, Cond.static Lib.Math.max.name, Cond.initialized "java/lang/Math", Cond.code Lib.Math.max.name Lib.Math.max.code 2 (some .int), Cond.selects RX7 ⟨"CowsOwed$Clan", "asks", "(I)I"⟩ yX7_asks]
def wsX11_which : List Cond := .code yX11_which cX11_which 1 (some .int) :: ((wsX11_which_r1 ++ wsX11_which_r2) ++ wsX110 ++ wsX80 ++ wsX90)
def wsX11_ask_r1 : List Cond := [Cond.fieldLink RX11 43 "CowsOwed" "now" "LCowsOwed$Times;", Cond.fieldLink RX11 213 "CowsOwed$Times" "told" "LCowsOwed$Told;", Cond.fieldLink RX11 22 "CowsOwed" "kinds" "[LCowsOwed$Clan;", Cond.methodLink RX11 225 yX9_nextRate, Cond.instanceMethod yX9_nextRate, Cond.selects RX9 yX9_nextRate yX9_nextRate, Cond.initialized RX9, Cond.code yX9_nextRate cX9_nextRate 7 (some .int), Cond.methodLink RX9 32 yX9_kindsLeft, Cond.instanceMethod yX9_kindsLeft, Cond.selects RX9 yX9_kindsLeft yX9_kindsLeft, Cond.code yX9_kindsLeft cX9_kindsLeft 4 (some .int), Cond.methodLink RX9 22 yX9_canBe, Cond.instanceMethod yX9_canBe, Cond.selects RX9 yX9_canBe yX9_canBe, Cond.code yX9_canBe cX9_canBe 3 (some .boolean), Cond.fieldLink RX9 18 "CowsOwed$Told" "size" "I", Cond.fieldLink RX9 9 "CowsOwed$Told" "rates" "[I", Cond.fieldLink RX9 15 "CowsOwed$Told" "asked" "[I", Cond.methodLink RX9 26 ⟨"CowsOwed$Clan", "asks", "(I)I"⟩, Cond.sameMethod "CowsOwed$Clan" "CowsOwed$Clan" "asks" "(I)I", Cond.selects RX0 ⟨"CowsOwed$Clan", "asks", "(I)I"⟩ yX1_asks, Cond.instanceMethod yX1_asks, Cond.initialized RX1]
def wsX11_ask_r2 : List Cond := [Cond.code yX1_asks cX1_asks 2 (some .int), Cond.methodLink RX9 26 yX1_asks, Cond.selects RX1 yX1_asks yX1_asks, Cond.instanceMethod ⟨"CowsOwed$Clan", "asks", "(I)I"⟩, Cond.selects RX3 ⟨"CowsOwed$Clan", "asks", "(I)I"⟩ yX3_asks, Cond.instanceMethod yX3_asks, Cond.initialized RX3, Cond.code yX3_asks cX3_asks 2 (some .int), Cond.methodLink RX3 9 yX7_asks, Cond.sameMethod "CowsOwed$Proud" "CowsOwed$Proud" "asks" "(I)I", Cond.superclass RX3 RX7, Cond.instanceMethod yX7_asks, Cond.initialized RX7, Cond.code yX7_asks cX7_asks 2 (some .int), Cond.selects RX6 ⟨"CowsOwed$Clan", "asks", "(I)I"⟩ yX6_asks, Cond.instanceMethod yX6_asks, Cond.initialized RX6, Cond.code yX6_asks cX6_asks 2 (some .int), Cond.methodLink RX6 9 Lib.Math.max.name, Cond.static Lib.Math.max.name, Cond.initialized "java/lang/Math", Cond.code Lib.Math.max.name Lib.Math.max.code 2 (some .int), Cond.selects RX7 ⟨"CowsOwed$Clan", "asks", "(I)I"⟩ yX7_asks, Cond.methodLink RX9 36 yX9_mostLeft]
def wsX11_ask_r3 : List Cond := [Cond.static yX9_mostLeft, Cond.code yX9_mostLeft cX9_mostLeft 5 (some .int), Cond.methodLink RX9 48 Lib.Math.max.name, Cond.methodLink RX9 40 yX9_has, Cond.static yX9_has, Cond.code yX9_has cX9_has 2 (some .boolean), Cond.methodLink RX9 44 yX9_alike, Cond.static yX9_alike, Cond.code yX9_alike cX9_alike 6 (some .int)]
def wsX11_ask : List Cond := .code yX11_ask cX11_ask 1 (some .int) :: ((wsX11_ask_r1 ++ (wsX11_ask_r2 ++ wsX11_ask_r3)) ++ wsX110 ++ wsX80 ++ wsX90)
def wsX11_ages_r1 : List Cond := [Cond.fieldLink RX11 53 "CowsOwed" "trial" "LCowsOwed$Herds;", Cond.fieldLink RX11 43 "CowsOwed" "now" "LCowsOwed$Times;", Cond.fieldLink RX11 97 "CowsOwed$Times" "herds" "LCowsOwed$Herds;", Cond.methodLink RX11 137 yX11_hasHills, Cond.instanceMethod yX11_hasHills, Cond.selects RX11 yX11_hasHills yX11_hasHills, Cond.initialized RX11, Cond.code yX11_hasHills cX11_hasHills 1 (some .boolean), Cond.fieldLink RX11 241 "CowsOwed$Herds" "size" "I", Cond.methodLink RX11 228 yX2_copyFrom, Cond.instanceMethod yX2_copyFrom, Cond.selects RX2 yX2_copyFrom yX2_copyFrom, Cond.initialized RX2, Cond.code yX2_copyFrom cX2_copyFrom 4 none, Cond.fieldLink RX2 20 "CowsOwed$Herds" "size" "I", Cond.fieldLink RX2 24 "CowsOwed$Herds" "price" "I", Cond.fieldLink RX2 9 "CowsOwed$Herds" "cows" "[I", Cond.fieldLink RX2 17 "CowsOwed$Herds" "debts" "[[I", Cond.methodLink RX11 232 yX2_live, Cond.instanceMethod yX2_live, Cond.selects RX2 yX2_live yX2_live, Cond.code yX2_live cX2_live 7 (some .int), Cond.methodLink RX2 70 yX2_nextSeed, Cond.static yX2_nextSeed]
def wsX11_ages_r2 : List Cond := [Cond.code yX2_nextSeed cX2_nextSeed 1 (some .int), Cond.constantLong RX2 86 (1103515245), Cond.constantLong RX2 88 (12345), Cond.constantLong RX2 90 (2147483648), Cond.methodLink RX2 73 yX2_drawn, Cond.instanceMethod yX2_drawn, Cond.selects RX2 yX2_drawn yX2_drawn, Cond.code yX2_drawn cX2_drawn 2 (some .int), Cond.constant RX2 92 (65536), Cond.methodLink RX2 76 yX2_knowsCouple, Cond.instanceMethod yX2_knowsCouple, Cond.selects RX2 yX2_knowsCouple yX2_knowsCouple, Cond.code yX2_knowsCouple cX2_knowsCouple 3 (some .boolean), Cond.methodLink RX2 31 yX2_knows, Cond.instanceMethod yX2_knows, Cond.selects RX2 yX2_knows yX2_knows, Cond.code yX2_knows cX2_knows 2 (some .boolean), Cond.methodLink RX2 80 yX2_marry, Cond.instanceMethod yX2_marry, Cond.selects RX2 yX2_marry yX2_marry, Cond.code yX2_marry cX2_marry 4 (some .int), Cond.fieldLink RX2 27 "CowsOwed$Herds" "clans" "[LCowsOwed$Clan;", Cond.methodLink RX2 35 ⟨"CowsOwed$Clan", "asks", "(I)I"⟩, Cond.sameMethod "CowsOwed$Clan" "CowsOwed$Clan" "asks" "(I)I"]
def wsX11_ages_r3 : List Cond := [Cond.selects RX0 ⟨"CowsOwed$Clan", "asks", "(I)I"⟩ yX1_asks, Cond.instanceMethod yX1_asks, Cond.initialized RX1, Cond.code yX1_asks cX1_asks 2 (some .int), Cond.methodLink RX2 35 yX1_asks, Cond.selects RX1 yX1_asks yX1_asks, Cond.instanceMethod ⟨"CowsOwed$Clan", "asks", "(I)I"⟩, Cond.selects RX3 ⟨"CowsOwed$Clan", "asks", "(I)I"⟩ yX3_asks, Cond.instanceMethod yX3_asks, Cond.initialized RX3, Cond.code yX3_asks cX3_asks 2 (some .int), Cond.methodLink RX3 9 yX7_asks, Cond.sameMethod "CowsOwed$Proud" "CowsOwed$Proud" "asks" "(I)I", Cond.superclass RX3 RX7, Cond.instanceMethod yX7_asks, Cond.initialized RX7, Cond.code yX7_asks cX7_asks 2 (some .int), Cond.selects RX6 ⟨"CowsOwed$Clan", "asks", "(I)I"⟩ yX6_asks, Cond.instanceMethod yX6_asks, Cond.initialized RX6, Cond.code yX6_asks cX6_asks 2 (some .int), Cond.methodLink RX6 9 Lib.Math.max.name, Cond.static Lib.Math.max.name, Cond.initialized "java/lang/Math"]
def wsX11_ages_r4 : List Cond := [Cond.code Lib.Math.max.name Lib.Math.max.code 2 (some .int), Cond.selects RX7 ⟨"CowsOwed$Clan", "asks", "(I)I"⟩ yX7_asks, Cond.methodLink RX2 44 yX2_pay, Cond.instanceMethod yX2_pay, Cond.selects RX2 yX2_pay yX2_pay, Cond.code yX2_pay cX2_pay 5 (some .int), Cond.methodLink RX2 48 Lib.Math.min.name, Cond.static Lib.Math.min.name, Cond.code Lib.Math.min.name Lib.Math.min.code 2 (some .int), Cond.methodLink RX2 41 ⟨"CowsOwed$Clan", "spares", "(I)I"⟩, Cond.sameMethod "CowsOwed$Clan" "CowsOwed$Clan" "spares" "(I)I", Cond.instanceMethod ⟨"CowsOwed$Clan", "spares", "(I)I"⟩, Cond.selects RX0 ⟨"CowsOwed$Clan", "spares", "(I)I"⟩ yX0_spares, Cond.instanceMethod yX0_spares, Cond.initialized RX0, Cond.code yX0_spares cX0_spares 2 (some .int), Cond.code yX1_spares cX1_spares 2 (some .int), Cond.methodLink RX2 41 yX1_spares, Cond.instanceMethod yX1_spares, Cond.selects RX1 yX1_spares yX1_spares, Cond.selects RX3 ⟨"CowsOwed$Clan", "spares", "(I)I"⟩ yX1_spares, Cond.selects RX6 ⟨"CowsOwed$Clan", "spares", "(I)I"⟩ yX1_spares, Cond.selects RX7 ⟨"CowsOwed$Clan", "spares", "(I)I"⟩ yX1_spares, Cond.methodLink RX2 83 yX2_passYear]
def wsX11_ages_r5 : List Cond := [Cond.instanceMethod yX2_passYear, Cond.selects RX2 yX2_passYear yX2_passYear, Cond.code yX2_passYear cX2_passYear 3 none, Cond.methodLink RX2 54 yX2_grown, Cond.static yX2_grown, Cond.code yX2_grown cX2_grown 1 (some .int), Cond.methodLink RX2 61 Lib.Math.max.name, Cond.methodLink RX2 57 yX2_payDebt, Cond.instanceMethod yX2_payDebt, Cond.selects RX2 yX2_payDebt yX2_payDebt, Cond.code yX2_payDebt cX2_payDebt 4 none, Cond.methodLink RX11 184 yX2_allOwed, Cond.instanceMethod yX2_allOwed, Cond.selects RX2 yX2_allOwed yX2_allOwed, Cond.code yX2_allOwed cX2_allOwed 3 (some .int), Cond.methodLink RX2 64 yX2_owedBy, Cond.instanceMethod yX2_owedBy, Cond.selects RX2 yX2_owedBy yX2_owedBy, Cond.code yX2_owedBy cX2_owedBy 4 (some .int), Cond.methodLink RX11 235 yX2_allCows, Cond.instanceMethod yX2_allCows, Cond.selects RX2 yX2_allCows yX2_allCows, Cond.code yX2_allCows cX2_allCows 3 (some .int)]
def wsX11_ages : List Cond := .code yX11_ages cX11_ages 5 (some .int) :: ((wsX11_ages_r1 ++ (wsX11_ages_r2 ++ (wsX11_ages_r3 ++ (wsX11_ages_r4 ++ wsX11_ages_r5)))) ++ wsX110 ++ wsX80 ++ wsX20)
def wsX11_image_r1 : List Cond := [Cond.fieldLink RX11 47 "CowsOwed" "kept" "LCowsOwed$Times;", Cond.fieldLink RX11 43 "CowsOwed" "now" "LCowsOwed$Times;", Cond.fieldLink RX11 57 "CowsOwed" "hasImage" "Z", Cond.fieldLink RX11 181 "CowsOwed$Times" "years" "I", Cond.methodLink RX11 137 yX11_hasHills, Cond.instanceMethod yX11_hasHills, Cond.selects RX11 yX11_hasHills yX11_hasHills, Cond.initialized RX11, Cond.code yX11_hasHills cX11_hasHills 1 (some .boolean), Cond.fieldLink RX11 97 "CowsOwed$Times" "herds" "LCowsOwed$Herds;", Cond.fieldLink RX11 241 "CowsOwed$Herds" "size" "I", Cond.methodLink RX11 238 yX8_copyFrom, Cond.instanceMethod yX8_copyFrom, Cond.selects RX8 yX8_copyFrom yX8_copyFrom, Cond.initialized RX8, Cond.code yX8_copyFrom cX8_copyFrom 2 none, Cond.fieldLink RX8 39 "CowsOwed$Times" "herds" "LCowsOwed$Herds;", Cond.fieldLink RX8 10 "CowsOwed$Times" "weddings" "LCowsOwed$Weddings;", Cond.fieldLink RX8 19 "CowsOwed$Times" "plans" "LCowsOwed$Plans;", Cond.fieldLink RX8 26 "CowsOwed$Times" "told" "LCowsOwed$Told;", Cond.fieldLink RX8 30 "CowsOwed$Times" "years" "I", Cond.methodLink RX8 52 yX2_copyFrom, Cond.instanceMethod yX2_copyFrom, Cond.selects RX2 yX2_copyFrom yX2_copyFrom]
def wsX11_image_r2 : List Cond := [Cond.initialized RX2, Cond.code yX2_copyFrom cX2_copyFrom 4 none, Cond.fieldLink RX2 20 "CowsOwed$Herds" "size" "I", Cond.fieldLink RX2 24 "CowsOwed$Herds" "price" "I", Cond.fieldLink RX2 9 "CowsOwed$Herds" "cows" "[I", Cond.fieldLink RX2 17 "CowsOwed$Herds" "debts" "[[I", Cond.methodLink RX8 56 yX10_copyFrom, Cond.instanceMethod yX10_copyFrom, Cond.selects RX10 yX10_copyFrom yX10_copyFrom, Cond.initialized RX10, Cond.code yX10_copyFrom cX10_copyFrom 3 none, Cond.fieldLink RX10 24 "CowsOwed$Weddings" "size" "I", Cond.fieldLink RX10 9 "CowsOwed$Weddings" "his" "[I", Cond.fieldLink RX10 15 "CowsOwed$Weddings" "hers" "[I", Cond.fieldLink RX10 18 "CowsOwed$Weddings" "asked" "[I", Cond.fieldLink RX10 21 "CowsOwed$Weddings" "undone" "[I", Cond.methodLink RX8 59 yX5_copyFrom, Cond.instanceMethod yX5_copyFrom, Cond.selects RX5 yX5_copyFrom yX5_copyFrom, Cond.initialized RX5, Cond.code yX5_copyFrom cX5_copyFrom 3 none, Cond.fieldLink RX5 24 "CowsOwed$Plans" "size" "I", Cond.fieldLink RX5 9 "CowsOwed$Plans" "his" "[I", Cond.fieldLink RX5 15 "CowsOwed$Plans" "hers" "[I"]
def wsX11_image_r3 : List Cond := [Cond.methodLink RX8 62 yX9_copyFrom, Cond.instanceMethod yX9_copyFrom, Cond.selects RX9 yX9_copyFrom yX9_copyFrom, Cond.initialized RX9, Cond.code yX9_copyFrom cX9_copyFrom 3 none, Cond.fieldLink RX9 18 "CowsOwed$Told" "size" "I", Cond.fieldLink RX9 9 "CowsOwed$Told" "rates" "[I", Cond.fieldLink RX9 15 "CowsOwed$Told" "asked" "[I"]
def wsX11_image : List Cond := .code yX11_image cX11_image 1 (some .int) :: ((wsX11_image_r1 ++ (wsX11_image_r2 ++ wsX11_image_r3)) ++ wsX110 ++ wsX80 ++ wsX20 ++ wsX100 ++ wsX50 ++ wsX90)
def wsX11_restore_r1 : List Cond := [Cond.fieldLink RX11 57 "CowsOwed" "hasImage" "Z", Cond.fieldLink RX11 43 "CowsOwed" "now" "LCowsOwed$Times;", Cond.fieldLink RX11 47 "CowsOwed" "kept" "LCowsOwed$Times;", Cond.fieldLink RX11 181 "CowsOwed$Times" "years" "I", Cond.methodLink RX11 238 yX8_copyFrom, Cond.instanceMethod yX8_copyFrom, Cond.selects RX8 yX8_copyFrom yX8_copyFrom, Cond.initialized RX8, Cond.code yX8_copyFrom cX8_copyFrom 2 none, Cond.fieldLink RX8 39 "CowsOwed$Times" "herds" "LCowsOwed$Herds;", Cond.fieldLink RX8 10 "CowsOwed$Times" "weddings" "LCowsOwed$Weddings;", Cond.fieldLink RX8 19 "CowsOwed$Times" "plans" "LCowsOwed$Plans;", Cond.fieldLink RX8 26 "CowsOwed$Times" "told" "LCowsOwed$Told;", Cond.fieldLink RX8 30 "CowsOwed$Times" "years" "I", Cond.methodLink RX8 52 yX2_copyFrom, Cond.instanceMethod yX2_copyFrom, Cond.selects RX2 yX2_copyFrom yX2_copyFrom, Cond.initialized RX2, Cond.code yX2_copyFrom cX2_copyFrom 4 none, Cond.fieldLink RX2 20 "CowsOwed$Herds" "size" "I", Cond.fieldLink RX2 24 "CowsOwed$Herds" "price" "I", Cond.fieldLink RX2 9 "CowsOwed$Herds" "cows" "[I", Cond.fieldLink RX2 17 "CowsOwed$Herds" "debts" "[[I", Cond.methodLink RX8 56 yX10_copyFrom]
def wsX11_restore_r2 : List Cond := [Cond.instanceMethod yX10_copyFrom, Cond.selects RX10 yX10_copyFrom yX10_copyFrom, Cond.initialized RX10, Cond.code yX10_copyFrom cX10_copyFrom 3 none, Cond.fieldLink RX10 24 "CowsOwed$Weddings" "size" "I", Cond.fieldLink RX10 9 "CowsOwed$Weddings" "his" "[I", Cond.fieldLink RX10 15 "CowsOwed$Weddings" "hers" "[I", Cond.fieldLink RX10 18 "CowsOwed$Weddings" "asked" "[I", Cond.fieldLink RX10 21 "CowsOwed$Weddings" "undone" "[I", Cond.methodLink RX8 59 yX5_copyFrom, Cond.instanceMethod yX5_copyFrom, Cond.selects RX5 yX5_copyFrom yX5_copyFrom, Cond.initialized RX5, Cond.code yX5_copyFrom cX5_copyFrom 3 none, Cond.fieldLink RX5 24 "CowsOwed$Plans" "size" "I", Cond.fieldLink RX5 9 "CowsOwed$Plans" "his" "[I", Cond.fieldLink RX5 15 "CowsOwed$Plans" "hers" "[I", Cond.methodLink RX8 62 yX9_copyFrom, Cond.instanceMethod yX9_copyFrom, Cond.selects RX9 yX9_copyFrom yX9_copyFrom, Cond.initialized RX9, Cond.code yX9_copyFrom cX9_copyFrom 3 none, Cond.fieldLink RX9 18 "CowsOwed$Told" "size" "I", Cond.fieldLink RX9 9 "CowsOwed$Told" "rates" "[I"]
def wsX11_restore_r3 : List Cond := [Cond.fieldLink RX9 15 "CowsOwed$Told" "asked" "[I"]
def wsX11_restore : List Cond := .code yX11_restore cX11_restore 1 (some .int) :: ((wsX11_restore_r1 ++ (wsX11_restore_r2 ++ wsX11_restore_r3)) ++ wsX110 ++ wsX80 ++ wsX20 ++ wsX100 ++ wsX50 ++ wsX90)
def wsX11_count_r1 : List Cond := [Cond.fieldLink RX11 43 "CowsOwed" "now" "LCowsOwed$Times;", Cond.fieldLink RX11 97 "CowsOwed$Times" "herds" "LCowsOwed$Herds;", Cond.fieldLink RX11 241 "CowsOwed$Herds" "size" "I", Cond.fieldLink RX11 140 "CowsOwed$Herds" "price" "I", Cond.fieldLink RX11 147 "CowsOwed$Times" "weddings" "LCowsOwed$Weddings;", Cond.fieldLink RX11 151 "CowsOwed$Weddings" "size" "I", Cond.fieldLink RX11 181 "CowsOwed$Times" "years" "I", Cond.fieldLink RX11 190 "CowsOwed$Times" "plans" "LCowsOwed$Plans;", Cond.fieldLink RX11 194 "CowsOwed$Plans" "size" "I", Cond.fieldLink RX11 213 "CowsOwed$Times" "told" "LCowsOwed$Told;", Cond.fieldLink RX11 217 "CowsOwed$Told" "size" "I", Cond.fieldLink RX11 34 "CowsOwed" "page" "LCowsOwed$Page;", Cond.fieldLink RX11 65 "CowsOwed$Page" "size" "I", Cond.fieldLink RX11 61 "CowsOwed" "timesRead" "I", Cond.methodLink RX11 235 yX2_allCows, Cond.instanceMethod yX2_allCows, Cond.selects RX2 yX2_allCows yX2_allCows, Cond.initialized RX2, Cond.code yX2_allCows cX2_allCows 3 (some .int), Cond.fieldLink RX2 20 "CowsOwed$Herds" "size" "I", Cond.fieldLink RX2 9 "CowsOwed$Herds" "cows" "[I", Cond.methodLink RX11 184 yX2_allOwed, Cond.instanceMethod yX2_allOwed, Cond.selects RX2 yX2_allOwed yX2_allOwed]
def wsX11_count_r2 : List Cond := [Cond.code yX2_allOwed cX2_allOwed 3 (some .int), Cond.methodLink RX2 64 yX2_owedBy, Cond.instanceMethod yX2_owedBy, Cond.selects RX2 yX2_owedBy yX2_owedBy, Cond.code yX2_owedBy cX2_owedBy 4 (some .int), Cond.fieldLink RX2 17 "CowsOwed$Herds" "debts" "[[I"]
def wsX11_count : List Cond := .code yX11_count cX11_count 2 (some .int) :: ((wsX11_count_r1 ++ wsX11_count_r2) ++ wsX110 ++ wsX80 ++ wsX20 ++ wsX100 ++ wsX50 ++ wsX90 ++ wsX40)
def wsX11_mixed : List Cond := .code yX11_mixed cX11_mixed 4 (some .long) :: ([.constantLong RX11 273 (31)])
def wsX11_mixedShallBe_r1 : List Cond := [Cond.fieldLink RX11 43 "CowsOwed" "now" "LCowsOwed$Times;", Cond.fieldLink RX11 97 "CowsOwed$Times" "herds" "LCowsOwed$Herds;", Cond.fieldLink RX11 190 "CowsOwed$Times" "plans" "LCowsOwed$Plans;", Cond.fieldLink RX11 53 "CowsOwed" "trial" "LCowsOwed$Herds;", Cond.fieldLink RX11 206 "CowsOwed$Plans" "leastOwed" "I", Cond.methodLink RX11 187 yX2_leastLed, Cond.instanceMethod yX2_leastLed, Cond.selects RX2 yX2_leastLed yX2_leastLed, Cond.initialized RX2, Cond.code yX2_leastLed cX2_leastLed 3 (some .int), Cond.fieldLink RX2 20 "CowsOwed$Herds" "size" "I", Cond.methodLink RX2 61 Lib.Math.max.name, Cond.static Lib.Math.max.name, Cond.initialized "java/lang/Math", Cond.code Lib.Math.max.name Lib.Math.max.code 2 (some .int), Cond.methodLink RX2 67 yX2_owedTo, Cond.instanceMethod yX2_owedTo, Cond.selects RX2 yX2_owedTo yX2_owedTo, Cond.code yX2_owedTo cX2_owedTo 4 (some .int), Cond.fieldLink RX2 17 "CowsOwed$Herds" "debts" "[[I", Cond.methodLink RX2 64 yX2_owedBy, Cond.instanceMethod yX2_owedBy, Cond.selects RX2 yX2_owedBy yX2_owedBy, Cond.code yX2_owedBy cX2_owedBy 4 (some .int)]
def wsX11_mixedShallBe_r2 : List Cond := [Cond.methodLink RX11 250 yX11_mixed, Cond.static yX11_mixed, Cond.initialized RX11, Cond.code yX11_mixed cX11_mixed 4 (some .long), Cond.constantLong RX11 273 (31), Cond.methodLink RX11 199 yX5_findOrder, Cond.instanceMethod yX5_findOrder, Cond.selects RX5 yX5_findOrder yX5_findOrder, Cond.initialized RX5, Cond.code yX5_findOrder cX5_findOrder 6 none, Cond.fieldLink RX5 28 "CowsOwed$Plans" "leastOwed" "I", Cond.fieldLink RX5 18 "CowsOwed$Plans" "tried" "[I", Cond.fieldLink RX5 21 "CowsOwed$Plans" "best" "[I", Cond.methodLink RX5 47 arraycopyName, Cond.native arraycopyName, Cond.static arraycopyName, Cond.initialized "java/lang/System", Cond.methodLink RX5 31 yX5_startOrders, Cond.instanceMethod yX5_startOrders, Cond.selects RX5 yX5_startOrders yX5_startOrders, Cond.code yX5_startOrders cX5_startOrders 2 none, Cond.methodLink RX5 34 yX2_copyFrom, Cond.instanceMethod yX2_copyFrom, Cond.selects RX2 yX2_copyFrom yX2_copyFrom]
def wsX11_mixedShallBe_r3 : List Cond := [Cond.code yX2_copyFrom cX2_copyFrom 4 none, Cond.fieldLink RX2 24 "CowsOwed$Herds" "price" "I", Cond.fieldLink RX2 9 "CowsOwed$Herds" "cows" "[I", Cond.methodLink RX5 40 yX5_marryInOrder, Cond.instanceMethod yX5_marryInOrder, Cond.selects RX5 yX5_marryInOrder yX5_marryInOrder, Cond.code yX5_marryInOrder cX5_marryInOrder 4 none, Cond.fieldLink RX5 24 "CowsOwed$Plans" "size" "I", Cond.fieldLink RX5 9 "CowsOwed$Plans" "his" "[I", Cond.fieldLink RX5 15 "CowsOwed$Plans" "hers" "[I", Cond.methodLink RX5 57 yX2_marry, Cond.instanceMethod yX2_marry, Cond.selects RX2 yX2_marry yX2_marry, Cond.code yX2_marry cX2_marry 4 (some .int), Cond.fieldLink RX2 27 "CowsOwed$Herds" "clans" "[LCowsOwed$Clan;", Cond.methodLink RX2 35 ⟨"CowsOwed$Clan", "asks", "(I)I"⟩, Cond.sameMethod "CowsOwed$Clan" "CowsOwed$Clan" "asks" "(I)I", Cond.selects RX0 ⟨"CowsOwed$Clan", "asks", "(I)I"⟩ yX1_asks, Cond.instanceMethod yX1_asks, Cond.initialized RX1, Cond.code yX1_asks cX1_asks 2 (some .int), Cond.methodLink RX2 35 yX1_asks, Cond.selects RX1 yX1_asks yX1_asks, Cond.instanceMethod ⟨"CowsOwed$Clan", "asks", "(I)I"⟩]
def wsX11_mixedShallBe_r4 : List Cond := [Cond.selects RX3 ⟨"CowsOwed$Clan", "asks", "(I)I"⟩ yX3_asks, Cond.instanceMethod yX3_asks, Cond.initialized RX3, Cond.code yX3_asks cX3_asks 2 (some .int), Cond.methodLink RX3 9 yX7_asks, Cond.sameMethod "CowsOwed$Proud" "CowsOwed$Proud" "asks" "(I)I", Cond.superclass RX3 RX7, Cond.instanceMethod yX7_asks, Cond.initialized RX7, Cond.code yX7_asks cX7_asks 2 (some .int), Cond.selects RX6 ⟨"CowsOwed$Clan", "asks", "(I)I"⟩ yX6_asks, Cond.instanceMethod yX6_asks, Cond.initialized RX6, Cond.code yX6_asks cX6_asks 2 (some .int), Cond.methodLink RX6 9 Lib.Math.max.name, Cond.selects RX7 ⟨"CowsOwed$Clan", "asks", "(I)I"⟩ yX7_asks, Cond.methodLink RX2 44 yX2_pay, Cond.instanceMethod yX2_pay, Cond.selects RX2 yX2_pay yX2_pay, Cond.code yX2_pay cX2_pay 5 (some .int), Cond.methodLink RX2 48 Lib.Math.min.name, Cond.static Lib.Math.min.name, Cond.code Lib.Math.min.name Lib.Math.min.code 2 (some .int), Cond.methodLink RX2 41 ⟨"CowsOwed$Clan", "spares", "(I)I"⟩]
def wsX11_mixedShallBe_r5 : List Cond := [Cond.sameMethod "CowsOwed$Clan" "CowsOwed$Clan" "spares" "(I)I", Cond.instanceMethod ⟨"CowsOwed$Clan", "spares", "(I)I"⟩, Cond.selects RX0 ⟨"CowsOwed$Clan", "spares", "(I)I"⟩ yX0_spares, Cond.instanceMethod yX0_spares, Cond.initialized RX0, Cond.code yX0_spares cX0_spares 2 (some .int), Cond.code yX1_spares cX1_spares 2 (some .int), Cond.methodLink RX2 41 yX1_spares, Cond.instanceMethod yX1_spares, Cond.selects RX1 yX1_spares yX1_spares, Cond.selects RX3 ⟨"CowsOwed$Clan", "spares", "(I)I"⟩ yX1_spares, Cond.selects RX6 ⟨"CowsOwed$Clan", "spares", "(I)I"⟩ yX1_spares, Cond.selects RX7 ⟨"CowsOwed$Clan", "spares", "(I)I"⟩ yX1_spares, Cond.methodLink RX5 43 yX2_allOwed, Cond.instanceMethod yX2_allOwed, Cond.selects RX2 yX2_allOwed yX2_allOwed, Cond.code yX2_allOwed cX2_allOwed 3 (some .int), Cond.methodLink RX5 53 yX5_nextOrder, Cond.instanceMethod yX5_nextOrder, Cond.selects RX5 yX5_nextOrder yX5_nextOrder, Cond.code yX5_nextOrder cX5_nextOrder 5 (some .boolean), Cond.methodLink RX5 61 yX5_swapTried, Cond.instanceMethod yX5_swapTried, Cond.selects RX5 yX5_swapTried yX5_swapTried]
def wsX11_mixedShallBe_r6 : List Cond := [Cond.code yX5_swapTried cX5_swapTried 4 none, Cond.methodLink RX11 203 yX5_bestAt, Cond.instanceMethod yX5_bestAt, Cond.selects RX5 yX5_bestAt yX5_bestAt, Cond.code yX5_bestAt cX5_bestAt 2 (some .int), Cond.methodLink RX11 209 yX5_highestRate, Cond.instanceMethod yX5_highestRate, Cond.selects RX5 yX5_highestRate yX5_highestRate, Cond.code yX5_highestRate cX5_highestRate 4 (some .int), Cond.fieldLink RX5 65 "CowsOwed$Herds" "price" "I", Cond.methodLink RX5 68 yX5_owesMore, Cond.static yX5_owesMore, Cond.code yX5_owesMore cX5_owesMore 3 (some .boolean), Cond.fieldLink RX5 72 "CowsOwed$Herds" "size" "I", Cond.methodLink RX5 73 yX2_owedBy]
def wsX11_mixedShallBe : List Cond := .code yX11_mixedShallBe cX11_mixedShallBe 6 (some .long) :: ((wsX11_mixedShallBe_r1 ++ (wsX11_mixedShallBe_r2 ++ (wsX11_mixedShallBe_r3 ++ (wsX11_mixedShallBe_r4 ++ (wsX11_mixedShallBe_r5 ++ wsX11_mixedShallBe_r6))))) ++ wsX110 ++ wsX80 ++ wsX50 ++ wsX20)
def wsX11_digest_r1 : List Cond := [Cond.constantLong RX11 242 (967), Cond.fieldLink RX11 43 "CowsOwed" "now" "LCowsOwed$Times;", Cond.fieldLink RX11 97 "CowsOwed$Times" "herds" "LCowsOwed$Herds;", Cond.fieldLink RX11 241 "CowsOwed$Herds" "size" "I", Cond.fieldLink RX11 244 "CowsOwed" "CLAN_PARTS" "[I", Cond.fieldLink RX11 147 "CowsOwed$Times" "weddings" "LCowsOwed$Weddings;", Cond.fieldLink RX11 151 "CowsOwed$Weddings" "size" "I", Cond.fieldLink RX11 34 "CowsOwed" "page" "LCowsOwed$Page;", Cond.fieldLink RX11 65 "CowsOwed$Page" "size" "I", Cond.fieldLink RX11 267 "CowsOwed$Page" "codes" "[I", Cond.methodLink RX11 247 yX11_clan, Cond.instanceMethod yX11_clan, Cond.selects RX11 yX11_clan yX11_clan, Cond.initialized RX11, Cond.code yX11_clan cX11_clan 4 (some .int), Cond.fieldLink RX11 111 "CowsOwed$Herds" "debts" "[[I", Cond.fieldLink RX11 28 "CowsOwed" "clans" "[LCowsOwed$Clan;", Cond.fieldLink RX11 100 "CowsOwed$Herds" "cows" "[I", Cond.methodLink RX11 107 yX2_knows, Cond.instanceMethod yX2_knows, Cond.selects RX2 yX2_knows yX2_knows, Cond.initialized RX2, Cond.code yX2_knows cX2_knows 2 (some .boolean), Cond.fieldLink RX2 20 "CowsOwed$Herds" "size" "I"]
def wsX11_digest_r2 : List Cond := [Cond.methodLink RX11 115 ⟨"CowsOwed$Clan", "number", "()I"⟩, Cond.sameMethod "CowsOwed$Clan" "CowsOwed$Clan" "number" "()I", Cond.instanceMethod ⟨"CowsOwed$Clan", "number", "()I"⟩, Cond.selects RX0 ⟨"CowsOwed$Clan", "number", "()I"⟩ yX0_number, Cond.instanceMethod yX0_number, Cond.initialized RX0, Cond.code yX0_number cX0_number 1 (some .int), Cond.code yX1_number cX1_number 1 (some .int), Cond.methodLink RX11 115 yX1_number, Cond.instanceMethod yX1_number, Cond.selects RX1 yX1_number yX1_number, Cond.initialized RX1, Cond.selects RX3 ⟨"CowsOwed$Clan", "number", "()I"⟩ yX3_number, Cond.instanceMethod yX3_number, Cond.initialized RX3, Cond.code yX3_number cX3_number 1 (some .int), Cond.selects RX6 ⟨"CowsOwed$Clan", "number", "()I"⟩ yX6_number, Cond.instanceMethod yX6_number, Cond.initialized RX6, Cond.code yX6_number cX6_number 1 (some .int), Cond.selects RX7 ⟨"CowsOwed$Clan", "number", "()I"⟩ yX7_number, Cond.instanceMethod yX7_number, Cond.initialized RX7, Cond.code yX7_number cX7_number 1 (some .int)]
def wsX11_digest_r3 : List Cond := [Cond.methodLink RX11 118 yX2_askedBy, Cond.instanceMethod yX2_askedBy, Cond.selects RX2 yX2_askedBy yX2_askedBy, Cond.code yX2_askedBy cX2_askedBy 2 (some .int), Cond.fieldLink RX2 27 "CowsOwed$Herds" "clans" "[LCowsOwed$Clan;", Cond.fieldLink RX2 24 "CowsOwed$Herds" "price" "I", Cond.methodLink RX2 35 ⟨"CowsOwed$Clan", "asks", "(I)I"⟩, Cond.sameMethod "CowsOwed$Clan" "CowsOwed$Clan" "asks" "(I)I", Cond.selects RX0 ⟨"CowsOwed$Clan", "asks", "(I)I"⟩ yX1_asks, Cond.instanceMethod yX1_asks, Cond.code yX1_asks cX1_asks 2 (some .int), Cond.methodLink RX2 35 yX1_asks, Cond.selects RX1 yX1_asks yX1_asks, Cond.instanceMethod ⟨"CowsOwed$Clan", "asks", "(I)I"⟩, Cond.selects RX3 ⟨"CowsOwed$Clan", "asks", "(I)I"⟩ yX3_asks, Cond.instanceMethod yX3_asks, Cond.code yX3_asks cX3_asks 2 (some .int), Cond.methodLink RX3 9 yX7_asks, Cond.sameMethod "CowsOwed$Proud" "CowsOwed$Proud" "asks" "(I)I", Cond.superclass RX3 RX7, Cond.instanceMethod yX7_asks, Cond.code yX7_asks cX7_asks 2 (some .int), Cond.selects RX6 ⟨"CowsOwed$Clan", "asks", "(I)I"⟩ yX6_asks, Cond.instanceMethod yX6_asks]
def wsX11_digest_r4 : List Cond := [Cond.code yX6_asks cX6_asks 2 (some .int), Cond.methodLink RX6 9 Lib.Math.max.name, Cond.static Lib.Math.max.name, Cond.initialized "java/lang/Math", Cond.code Lib.Math.max.name Lib.Math.max.code 2 (some .int), Cond.selects RX7 ⟨"CowsOwed$Clan", "asks", "(I)I"⟩ yX7_asks, Cond.methodLink RX11 121 yX2_sparedBy, Cond.instanceMethod yX2_sparedBy, Cond.selects RX2 yX2_sparedBy yX2_sparedBy, Cond.code yX2_sparedBy cX2_sparedBy 2 (some .int), Cond.fieldLink RX2 9 "CowsOwed$Herds" "cows" "[I", Cond.methodLink RX2 41 ⟨"CowsOwed$Clan", "spares", "(I)I"⟩, Cond.sameMethod "CowsOwed$Clan" "CowsOwed$Clan" "spares" "(I)I", Cond.instanceMethod ⟨"CowsOwed$Clan", "spares", "(I)I"⟩, Cond.selects RX0 ⟨"CowsOwed$Clan", "spares", "(I)I"⟩ yX0_spares, Cond.instanceMethod yX0_spares, Cond.code yX0_spares cX0_spares 2 (some .int), Cond.code yX1_spares cX1_spares 2 (some .int), Cond.methodLink RX2 41 yX1_spares, Cond.instanceMethod yX1_spares, Cond.selects RX1 yX1_spares yX1_spares, Cond.selects RX3 ⟨"CowsOwed$Clan", "spares", "(I)I"⟩ yX1_spares, Cond.selects RX6 ⟨"CowsOwed$Clan", "spares", "(I)I"⟩ yX1_spares, Cond.selects RX7 ⟨"CowsOwed$Clan", "spares", "(I)I"⟩ yX1_spares]
def wsX11_digest_r5 : List Cond := [Cond.methodLink RX11 124 yX2_owedBy, Cond.instanceMethod yX2_owedBy, Cond.selects RX2 yX2_owedBy yX2_owedBy, Cond.code yX2_owedBy cX2_owedBy 4 (some .int), Cond.fieldLink RX2 17 "CowsOwed$Herds" "debts" "[[I", Cond.methodLink RX11 127 yX2_owedTo, Cond.instanceMethod yX2_owedTo, Cond.selects RX2 yX2_owedTo yX2_owedTo, Cond.code yX2_owedTo cX2_owedTo 4 (some .int), Cond.methodLink RX11 250 yX11_mixed, Cond.static yX11_mixed, Cond.code yX11_mixed cX11_mixed 4 (some .long), Cond.constantLong RX11 273 (31), Cond.methodLink RX11 254 yX11_wedding, Cond.instanceMethod yX11_wedding, Cond.selects RX11 yX11_wedding yX11_wedding, Cond.code yX11_wedding cX11_wedding 4 (some .int), Cond.fieldLink RX11 163 "CowsOwed$Weddings" "his" "[I", Cond.fieldLink RX11 166 "CowsOwed$Weddings" "hers" "[I", Cond.fieldLink RX11 169 "CowsOwed$Weddings" "asked" "[I", Cond.fieldLink RX11 172 "CowsOwed$Weddings" "undone" "[I", Cond.methodLink RX11 162 yX10_knows, Cond.instanceMethod yX10_knows, Cond.selects RX10 yX10_knows yX10_knows]
def wsX11_digest_r6 : List Cond := [Cond.initialized RX10, Cond.code yX10_knows cX10_knows 2 (some .boolean), Cond.fieldLink RX10 24 "CowsOwed$Weddings" "size" "I", Cond.methodLink RX11 137 yX11_hasHills, Cond.instanceMethod yX11_hasHills, Cond.selects RX11 yX11_hasHills yX11_hasHills, Cond.code yX11_hasHills cX11_hasHills 1 (some .boolean), Cond.methodLink RX11 257 yX11_mixedShallBe, Cond.instanceMethod yX11_mixedShallBe, Cond.selects RX11 yX11_mixedShallBe yX11_mixedShallBe, Cond.code yX11_mixedShallBe cX11_mixedShallBe 6 (some .long), Cond.fieldLink RX11 190 "CowsOwed$Times" "plans" "LCowsOwed$Plans;", Cond.fieldLink RX11 53 "CowsOwed" "trial" "LCowsOwed$Herds;", Cond.fieldLink RX11 206 "CowsOwed$Plans" "leastOwed" "I", Cond.methodLink RX11 187 yX2_leastLed, Cond.instanceMethod yX2_leastLed, Cond.selects RX2 yX2_leastLed yX2_leastLed, Cond.code yX2_leastLed cX2_leastLed 3 (some .int), Cond.methodLink RX2 61 Lib.Math.max.name, Cond.methodLink RX2 67 yX2_owedTo, Cond.methodLink RX2 64 yX2_owedBy, Cond.methodLink RX11 199 yX5_findOrder, Cond.instanceMethod yX5_findOrder, Cond.selects RX5 yX5_findOrder yX5_findOrder]
def wsX11_digest_r7 : List Cond := [Cond.initialized RX5, Cond.code yX5_findOrder cX5_findOrder 6 none, Cond.fieldLink RX5 28 "CowsOwed$Plans" "leastOwed" "I", Cond.fieldLink RX5 18 "CowsOwed$Plans" "tried" "[I", Cond.fieldLink RX5 21 "CowsOwed$Plans" "best" "[I", Cond.methodLink RX5 47 arraycopyName, Cond.native arraycopyName, Cond.static arraycopyName, Cond.initialized "java/lang/System", Cond.methodLink RX5 31 yX5_startOrders, Cond.instanceMethod yX5_startOrders, Cond.selects RX5 yX5_startOrders yX5_startOrders, Cond.code yX5_startOrders cX5_startOrders 2 none, Cond.methodLink RX5 34 yX2_copyFrom, Cond.instanceMethod yX2_copyFrom, Cond.selects RX2 yX2_copyFrom yX2_copyFrom, Cond.code yX2_copyFrom cX2_copyFrom 4 none, Cond.methodLink RX5 40 yX5_marryInOrder, Cond.instanceMethod yX5_marryInOrder, Cond.selects RX5 yX5_marryInOrder yX5_marryInOrder, Cond.code yX5_marryInOrder cX5_marryInOrder 4 none, Cond.fieldLink RX5 24 "CowsOwed$Plans" "size" "I", Cond.fieldLink RX5 9 "CowsOwed$Plans" "his" "[I", Cond.fieldLink RX5 15 "CowsOwed$Plans" "hers" "[I"]
def wsX11_digest_r8 : List Cond := [Cond.methodLink RX5 57 yX2_marry, Cond.instanceMethod yX2_marry, Cond.selects RX2 yX2_marry yX2_marry, Cond.code yX2_marry cX2_marry 4 (some .int), Cond.methodLink RX2 44 yX2_pay, Cond.instanceMethod yX2_pay, Cond.selects RX2 yX2_pay yX2_pay, Cond.code yX2_pay cX2_pay 5 (some .int), Cond.methodLink RX2 48 Lib.Math.min.name, Cond.static Lib.Math.min.name, Cond.code Lib.Math.min.name Lib.Math.min.code 2 (some .int), Cond.methodLink RX5 43 yX2_allOwed, Cond.instanceMethod yX2_allOwed, Cond.selects RX2 yX2_allOwed yX2_allOwed, Cond.code yX2_allOwed cX2_allOwed 3 (some .int), Cond.methodLink RX5 53 yX5_nextOrder, Cond.instanceMethod yX5_nextOrder, Cond.selects RX5 yX5_nextOrder yX5_nextOrder, Cond.code yX5_nextOrder cX5_nextOrder 5 (some .boolean), Cond.methodLink RX5 61 yX5_swapTried, Cond.instanceMethod yX5_swapTried, Cond.selects RX5 yX5_swapTried yX5_swapTried, Cond.code yX5_swapTried cX5_swapTried 4 none, Cond.methodLink RX11 203 yX5_bestAt]
def wsX11_digest_r9 : List Cond := [Cond.instanceMethod yX5_bestAt, Cond.selects RX5 yX5_bestAt yX5_bestAt, Cond.code yX5_bestAt cX5_bestAt 2 (some .int), Cond.methodLink RX11 209 yX5_highestRate, Cond.instanceMethod yX5_highestRate, Cond.selects RX5 yX5_highestRate yX5_highestRate, Cond.code yX5_highestRate cX5_highestRate 4 (some .int), Cond.fieldLink RX5 65 "CowsOwed$Herds" "price" "I", Cond.methodLink RX5 68 yX5_owesMore, Cond.static yX5_owesMore, Cond.code yX5_owesMore cX5_owesMore 3 (some .boolean), Cond.fieldLink RX5 72 "CowsOwed$Herds" "size" "I", Cond.methodLink RX5 73 yX2_owedBy, Cond.methodLink RX11 261 yX11_which, Cond.instanceMethod yX11_which, Cond.selects RX11 yX11_which yX11_which, Cond.code yX11_which cX11_which 1 (some .int), Cond.fieldLink RX11 213 "CowsOwed$Times" "told" "LCowsOwed$Told;", Cond.fieldLink RX11 22 "CowsOwed" "kinds" "[LCowsOwed$Clan;", Cond.methodLink RX11 221 yX9_kindsLeft, Cond.instanceMethod yX9_kindsLeft, Cond.selects RX9 yX9_kindsLeft yX9_kindsLeft, Cond.initialized RX9, Cond.code yX9_kindsLeft cX9_kindsLeft 4 (some .int)]
def wsX11_digest_r10 : List Cond := [Cond.methodLink RX9 22 yX9_canBe, Cond.instanceMethod yX9_canBe, Cond.selects RX9 yX9_canBe yX9_canBe, Cond.code yX9_canBe cX9_canBe 3 (some .boolean), Cond.fieldLink RX9 18 "CowsOwed$Told" "size" "I", Cond.fieldLink RX9 9 "CowsOwed$Told" "rates" "[I", Cond.fieldLink RX9 15 "CowsOwed$Told" "asked" "[I", Cond.methodLink RX9 26 ⟨"CowsOwed$Clan", "asks", "(I)I"⟩, Cond.methodLink RX9 26 yX1_asks, Cond.methodLink RX11 264 yX11_ask, Cond.instanceMethod yX11_ask, Cond.selects RX11 yX11_ask yX11_ask, Cond.code yX11_ask cX11_ask 1 (some .int), Cond.methodLink RX11 225 yX9_nextRate, Cond.instanceMethod yX9_nextRate, Cond.selects RX9 yX9_nextRate yX9_nextRate, Cond.code yX9_nextRate cX9_nextRate 7 (some .int), Cond.methodLink RX9 32 yX9_kindsLeft, Cond.methodLink RX9 36 yX9_mostLeft, Cond.static yX9_mostLeft, Cond.code yX9_mostLeft cX9_mostLeft 5 (some .int), Cond.methodLink RX9 48 Lib.Math.max.name, Cond.methodLink RX9 40 yX9_has, Cond.static yX9_has]
def wsX11_digest_r11 : List Cond := [Cond.code yX9_has cX9_has 2 (some .boolean), Cond.methodLink RX9 44 yX9_alike, Cond.static yX9_alike, Cond.code yX9_alike cX9_alike 6 (some .int), Cond.methodLink RX11 270 yX11_count, Cond.instanceMethod yX11_count, Cond.selects RX11 yX11_count yX11_count, Cond.code yX11_count cX11_count 2 (some .int), Cond.fieldLink RX11 140 "CowsOwed$Herds" "price" "I", Cond.fieldLink RX11 181 "CowsOwed$Times" "years" "I", Cond.fieldLink RX11 194 "CowsOwed$Plans" "size" "I", Cond.fieldLink RX11 217 "CowsOwed$Told" "size" "I", Cond.fieldLink RX11 61 "CowsOwed" "timesRead" "I", Cond.methodLink RX11 235 yX2_allCows, Cond.instanceMethod yX2_allCows, Cond.selects RX2 yX2_allCows yX2_allCows, Cond.code yX2_allCows cX2_allCows 3 (some .int), Cond.methodLink RX11 184 yX2_allOwed]
def wsX11_digest : List Cond := .code yX11_digest cX11_digest 8 (some .long) :: ((wsX11_digest_r1 ++ (wsX11_digest_r2 ++ (wsX11_digest_r3 ++ (wsX11_digest_r4 ++ (wsX11_digest_r5 ++ (wsX11_digest_r6 ++ (wsX11_digest_r7 ++ (wsX11_digest_r8 ++ (wsX11_digest_r9 ++ (wsX11_digest_r10 ++ wsX11_digest_r11)))))))))) ++ wsX110 ++ wsX80 ++ wsX20 ++ wsX100 ++ wsX40 ++ wsX50 ++ wsX90)
def wsX12_init : List Cond := .code yX12_init cX12_init 1 none :: ([.methodLink RX12 1 objectInit, .instanceMethod objectInit, .code objectInit ⟨#[0xb1]⟩ 1 none, .arrayClass .int, .fieldLink RX12 7 "CowsOwedModel" "page" "[I", .fieldLink RX12 13 "CowsOwedModel" "read" "[I", .fieldLink RX12 16 "CowsOwedModel" "kinds" "[I", .fieldLink RX12 19 "CowsOwedModel" "herds" "[I", .fieldLink RX12 22 "CowsOwedModel" "debts" "[I", .fieldLink RX12 25 "CowsOwedModel" "rows" "[I", .fieldLink RX12 28 "CowsOwedModel" "planned" "[I", .fieldLink RX12 31 "CowsOwedModel" "savedHerds" "[I", .fieldLink RX12 34 "CowsOwedModel" "savedDebts" "[I", .fieldLink RX12 37 "CowsOwedModel" "row" "[I", .fieldLink RX12 40 "CowsOwedModel" "bestRow" "[I", .fieldLink RX12 43 "CowsOwedModel" "owedBefore" "[I", .fieldLink RX12 46 "CowsOwedModel" "told" "[I", .fieldLink RX12 49 "CowsOwedModel" "parts" "[I", .fieldLink RX12 52 "CowsOwedModel" "keptHerds" "[I", .fieldLink RX12 55 "CowsOwedModel" "keptDebts" "[I", .fieldLink RX12 58 "CowsOwedModel" "keptRows" "[I", .fieldLink RX12 61 "CowsOwedModel" "keptPlanned" "[I", .fieldLink RX12 64 "CowsOwedModel" "keptTold" "[I", .fieldLink RX12 67 "CowsOwedModel" "keptHills" "I"] ++ wsX120)
def wsX12_in : List Cond := .code yX12_in cX12_in 6 (some .boolean) :: ([])
def wsX12_copy : List Cond := .code yX12_copy cX12_copy 3 none :: ([])
def wsX12_letter : List Cond := .code yX12_letter cX12_letter 2 (some .int) :: ([.constantLong RX12 71 (126), .fieldLink RX12 77 "CowsOwedModel" "pageMany" "I", .fieldLink RX12 7 "CowsOwedModel" "page" "[I", .methodLink RX12 73 yX12_in, .static yX12_in, .initialized RX12, .code yX12_in cX12_in 6 (some .boolean)] ++ wsX120)
def wsX12_blank : List Cond := .code yX12_blank cX12_blank 2 (some .int) :: ([.fieldLink RX12 77 "CowsOwedModel" "pageMany" "I"] ++ wsX120)
def wsX12_kindBy : List Cond := .code yX12_kindBy cX12_kindBy 1 (some .int) :: ([])
def wsX12_go : List Cond := .code yX12_go cX12_go 4 (some .boolean) :: ([.fieldLink RX12 80 "CowsOwedModel" "state" "I", .fieldLink RX12 13 "CowsOwedModel" "read" "[I", .fieldLink RX12 83 "CowsOwedModel" "readMany" "I", .constantLong RX12 90 (9), .fieldLink RX12 92 "CowsOwedModel" "readRate" "I", .constantLong RX12 95 (5), .methodLink RX12 86 yX12_kindBy, .static yX12_kindBy, .initialized RX12, .code yX12_kindBy cX12_kindBy 1 (some .int), .methodLink RX12 73 yX12_in, .static yX12_in, .code yX12_in cX12_in 6 (some .boolean)] ++ wsX120)
def wsX12_faultOf : List Cond := .code yX12_faultOf cX12_faultOf 2 (some .int) :: ([.fieldLink RX12 83 "CowsOwedModel" "readMany" "I", .fieldLink RX12 80 "CowsOwedModel" "state" "I", .fieldLink RX12 77 "CowsOwedModel" "pageMany" "I", .fieldLink RX12 7 "CowsOwedModel" "page" "[I", .methodLink RX12 97 yX12_go, .instanceMethod yX12_go, .selects RX12 yX12_go yX12_go, .initialized RX12, .code yX12_go cX12_go 4 (some .boolean), .fieldLink RX12 13 "CowsOwedModel" "read" "[I", .constantLong RX12 90 (9), .fieldLink RX12 92 "CowsOwedModel" "readRate" "I", .constantLong RX12 95 (5), .methodLink RX12 86 yX12_kindBy, .static yX12_kindBy, .code yX12_kindBy cX12_kindBy 1 (some .int), .methodLink RX12 73 yX12_in, .static yX12_in, .code yX12_in cX12_in 6 (some .boolean)] ++ wsX120)
def wsX12_fault : List Cond := .code yX12_fault cX12_fault 1 (some .int) :: ([.methodLink RX12 101 yX12_faultOf, .instanceMethod yX12_faultOf, .selects RX12 yX12_faultOf yX12_faultOf, .initialized RX12, .code yX12_faultOf cX12_faultOf 2 (some .int), .fieldLink RX12 83 "CowsOwedModel" "readMany" "I", .fieldLink RX12 80 "CowsOwedModel" "state" "I", .fieldLink RX12 77 "CowsOwedModel" "pageMany" "I", .fieldLink RX12 7 "CowsOwedModel" "page" "[I", .methodLink RX12 97 yX12_go, .instanceMethod yX12_go, .selects RX12 yX12_go yX12_go, .code yX12_go cX12_go 4 (some .boolean), .fieldLink RX12 13 "CowsOwedModel" "read" "[I", .constantLong RX12 90 (9), .fieldLink RX12 92 "CowsOwedModel" "readRate" "I", .constantLong RX12 95 (5), .methodLink RX12 86 yX12_kindBy, .static yX12_kindBy, .code yX12_kindBy cX12_kindBy 1 (some .int), .methodLink RX12 73 yX12_in, .static yX12_in, .code yX12_in cX12_in 6 (some .boolean)] ++ wsX120)
def wsX12_hills_r1 : List Cond := [Cond.fieldLink RX12 77 "CowsOwedModel" "pageMany" "I", Cond.fieldLink RX12 80 "CowsOwedModel" "state" "I", Cond.fieldLink RX12 83 "CowsOwedModel" "readMany" "I", Cond.fieldLink RX12 105 "CowsOwedModel" "clans" "I", Cond.fieldLink RX12 16 "CowsOwedModel" "kinds" "[I", Cond.fieldLink RX12 13 "CowsOwedModel" "read" "[I", Cond.fieldLink RX12 19 "CowsOwedModel" "herds" "[I", Cond.fieldLink RX12 22 "CowsOwedModel" "debts" "[I", Cond.fieldLink RX12 92 "CowsOwedModel" "readRate" "I", Cond.fieldLink RX12 108 "CowsOwedModel" "rateNow" "I", Cond.fieldLink RX12 111 "CowsOwedModel" "yearsNow" "I", Cond.fieldLink RX12 114 "CowsOwedModel" "weddings" "I", Cond.fieldLink RX12 117 "CowsOwedModel" "plans" "I", Cond.fieldLink RX12 120 "CowsOwedModel" "toldMany" "I", Cond.fieldLink RX12 123 "CowsOwedModel" "hillsRead" "I", Cond.methodLink RX12 101 yX12_faultOf, Cond.instanceMethod yX12_faultOf, Cond.selects RX12 yX12_faultOf yX12_faultOf, Cond.initialized RX12, Cond.code yX12_faultOf cX12_faultOf 2 (some .int), Cond.fieldLink RX12 7 "CowsOwedModel" "page" "[I", Cond.methodLink RX12 97 yX12_go, Cond.instanceMethod yX12_go, Cond.selects RX12 yX12_go yX12_go]
def wsX12_hills_r2 : List Cond := [Cond.code yX12_go cX12_go 4 (some .boolean), Cond.constantLong RX12 90 (9), Cond.constantLong RX12 95 (5), Cond.methodLink RX12 86 yX12_kindBy, Cond.static yX12_kindBy, Cond.code yX12_kindBy cX12_kindBy 1 (some .int), Cond.methodLink RX12 73 yX12_in, Cond.static yX12_in, Cond.code yX12_in cX12_in 6 (some .boolean)]
def wsX12_hills : List Cond := .code yX12_hills cX12_hills 2 (some .int) :: ((wsX12_hills_r1 ++ wsX12_hills_r2) ++ wsX120)
def wsX12_lacks : List Cond := .code yX12_lacks cX12_lacks 1 (some .boolean) :: ([.fieldLink RX12 105 "CowsOwedModel" "clans" "I"] ++ wsX120)
def wsX12_isClan : List Cond := .code yX12_isClan cX12_isClan 2 (some .boolean) :: ([.fieldLink RX12 105 "CowsOwedModel" "clans" "I", .methodLink RX12 73 yX12_in, .static yX12_in, .initialized RX12, .code yX12_in cX12_in 6 (some .boolean)] ++ wsX120)
def wsX12_areTwo : List Cond := .code yX12_areTwo cX12_areTwo 3 (some .boolean) :: ([.methodLink RX12 126 yX12_isClan, .instanceMethod yX12_isClan, .selects RX12 yX12_isClan yX12_isClan, .initialized RX12, .code yX12_isClan cX12_isClan 2 (some .boolean), .fieldLink RX12 105 "CowsOwedModel" "clans" "I", .methodLink RX12 73 yX12_in, .static yX12_in, .code yX12_in cX12_in 6 (some .boolean)] ++ wsX120)
def wsX12_asksBy : List Cond := .code yX12_asksBy cX12_asksBy 2 (some .int) :: ([])
def wsX12_spareOf : List Cond := .code yX12_spareOf cX12_spareOf 3 (some .int) :: ([.fieldLink RX12 16 "CowsOwedModel" "kinds" "[I", .fieldLink RX12 19 "CowsOwedModel" "herds" "[I"] ++ wsX120)
def wsX12_paysNow : List Cond := .code yX12_paysNow cX12_paysNow 5 (some .int) :: ([.fieldLink RX12 19 "CowsOwedModel" "herds" "[I", .methodLink RX12 129 yX12_spareOf, .instanceMethod yX12_spareOf, .selects RX12 yX12_spareOf yX12_spareOf, .initialized RX12, .code yX12_spareOf cX12_spareOf 3 (some .int), .fieldLink RX12 16 "CowsOwedModel" "kinds" "[I"] ++ wsX120)
def wsX12_pays : List Cond := .code yX12_pays cX12_pays 5 (some .int) :: ([.fieldLink RX12 22 "CowsOwedModel" "debts" "[I", .methodLink RX12 132 yX12_paysNow, .instanceMethod yX12_paysNow, .selects RX12 yX12_paysNow yX12_paysNow, .initialized RX12, .code yX12_paysNow cX12_paysNow 5 (some .int), .fieldLink RX12 19 "CowsOwedModel" "herds" "[I", .methodLink RX12 129 yX12_spareOf, .instanceMethod yX12_spareOf, .selects RX12 yX12_spareOf yX12_spareOf, .code yX12_spareOf cX12_spareOf 3 (some .int), .fieldLink RX12 16 "CowsOwedModel" "kinds" "[I"] ++ wsX120)
def wsX12_owesOf : List Cond := .code yX12_owesOf cX12_owesOf 2 (some .int) :: ([.fieldLink RX12 22 "CowsOwedModel" "debts" "[I"] ++ wsX120)
def wsX12_owedTo : List Cond := .code yX12_owedTo cX12_owedTo 2 (some .int) :: ([.fieldLink RX12 22 "CowsOwedModel" "debts" "[I"] ++ wsX120)
def wsX12_owedAll : List Cond := .code yX12_owedAll cX12_owedAll 3 (some .int) :: ([.fieldLink RX12 22 "CowsOwedModel" "debts" "[I"] ++ wsX120)
def wsX12_cowsAll : List Cond := .code yX12_cowsAll cX12_cowsAll 3 (some .int) :: ([.fieldLink RX12 105 "CowsOwedModel" "clans" "I", .fieldLink RX12 19 "CowsOwedModel" "herds" "[I"] ++ wsX120)
def wsX12_clanOf_r1 : List Cond := [Cond.constantLong RX12 136 (10), Cond.constantLong RX12 138 (13), Cond.fieldLink RX12 22 "CowsOwedModel" "debts" "[I", Cond.fieldLink RX12 16 "CowsOwedModel" "kinds" "[I", Cond.fieldLink RX12 19 "CowsOwedModel" "herds" "[I", Cond.fieldLink RX12 108 "CowsOwedModel" "rateNow" "I", Cond.methodLink RX12 73 yX12_in, Cond.static yX12_in, Cond.initialized RX12, Cond.code yX12_in cX12_in 6 (some .boolean), Cond.methodLink RX12 140 yX12_asksBy, Cond.static yX12_asksBy, Cond.code yX12_asksBy cX12_asksBy 2 (some .int), Cond.methodLink RX12 129 yX12_spareOf, Cond.instanceMethod yX12_spareOf, Cond.selects RX12 yX12_spareOf yX12_spareOf, Cond.code yX12_spareOf cX12_spareOf 3 (some .int), Cond.methodLink RX12 144 yX12_owesOf, Cond.instanceMethod yX12_owesOf, Cond.selects RX12 yX12_owesOf yX12_owesOf, Cond.code yX12_owesOf cX12_owesOf 2 (some .int), Cond.methodLink RX12 147 yX12_owedTo, Cond.instanceMethod yX12_owedTo, Cond.selects RX12 yX12_owedTo yX12_owedTo]
def wsX12_clanOf_r2 : List Cond := [Cond.code yX12_owedTo cX12_owedTo 2 (some .int)]
def wsX12_clanOf : List Cond := .code yX12_clanOf cX12_clanOf 3 (some .int) :: ((wsX12_clanOf_r1 ++ wsX12_clanOf_r2) ++ wsX120)
def wsX12_clan_r1 : List Cond := [Cond.methodLink RX12 126 yX12_isClan, Cond.instanceMethod yX12_isClan, Cond.selects RX12 yX12_isClan yX12_isClan, Cond.initialized RX12, Cond.code yX12_isClan cX12_isClan 2 (some .boolean), Cond.fieldLink RX12 105 "CowsOwedModel" "clans" "I", Cond.methodLink RX12 73 yX12_in, Cond.static yX12_in, Cond.code yX12_in cX12_in 6 (some .boolean), Cond.methodLink RX12 150 yX12_clanOf, Cond.instanceMethod yX12_clanOf, Cond.selects RX12 yX12_clanOf yX12_clanOf, Cond.code yX12_clanOf cX12_clanOf 3 (some .int), Cond.constantLong RX12 136 (10), Cond.constantLong RX12 138 (13), Cond.fieldLink RX12 22 "CowsOwedModel" "debts" "[I", Cond.fieldLink RX12 16 "CowsOwedModel" "kinds" "[I", Cond.fieldLink RX12 19 "CowsOwedModel" "herds" "[I", Cond.fieldLink RX12 108 "CowsOwedModel" "rateNow" "I", Cond.methodLink RX12 140 yX12_asksBy, Cond.static yX12_asksBy, Cond.code yX12_asksBy cX12_asksBy 2 (some .int), Cond.methodLink RX12 129 yX12_spareOf, Cond.instanceMethod yX12_spareOf]
def wsX12_clan_r2 : List Cond := [Cond.selects RX12 yX12_spareOf yX12_spareOf, Cond.code yX12_spareOf cX12_spareOf 3 (some .int), Cond.methodLink RX12 144 yX12_owesOf, Cond.instanceMethod yX12_owesOf, Cond.selects RX12 yX12_owesOf yX12_owesOf, Cond.code yX12_owesOf cX12_owesOf 2 (some .int), Cond.methodLink RX12 147 yX12_owedTo, Cond.instanceMethod yX12_owedTo, Cond.selects RX12 yX12_owedTo yX12_owedTo, Cond.code yX12_owedTo cX12_owedTo 2 (some .int)]
def wsX12_clan : List Cond := .code yX12_clan cX12_clan 3 (some .int) :: ((wsX12_clan_r1 ++ wsX12_clan_r2) ++ wsX120)
def wsX12_as : List Cond := .code yX12_as cX12_as 4 (some .int) :: ([.constantLong RX12 153 (4), .fieldLink RX12 16 "CowsOwedModel" "kinds" "[I", .methodLink RX12 126 yX12_isClan, .instanceMethod yX12_isClan, .selects RX12 yX12_isClan yX12_isClan, .initialized RX12, .code yX12_isClan cX12_isClan 2 (some .boolean), .fieldLink RX12 105 "CowsOwedModel" "clans" "I", .methodLink RX12 73 yX12_in, .static yX12_in, .code yX12_in cX12_in 6 (some .boolean)] ++ wsX120)
def wsX12_rate : List Cond := .code yX12_rate cX12_rate 3 (some .int) :: ([.constantLong RX12 90 (9), .fieldLink RX12 108 "CowsOwedModel" "rateNow" "I", .methodLink RX12 73 yX12_in, .static yX12_in, .initialized RX12, .code yX12_in cX12_in 6 (some .boolean), .methodLink RX12 155 yX12_lacks, .instanceMethod yX12_lacks, .selects RX12 yX12_lacks yX12_lacks, .code yX12_lacks cX12_lacks 1 (some .boolean), .fieldLink RX12 105 "CowsOwedModel" "clans" "I"] ++ wsX120)
def wsX12_marry : List Cond := .code yX12_marry cX12_marry 4 (some .int) :: ([.fieldLink RX12 16 "CowsOwedModel" "kinds" "[I", .methodLink RX12 140 yX12_asksBy, .static yX12_asksBy, .initialized RX12, .code yX12_asksBy cX12_asksBy 2 (some .int), .methodLink RX12 159 yX12_pays, .instanceMethod yX12_pays, .selects RX12 yX12_pays yX12_pays, .code yX12_pays cX12_pays 5 (some .int), .fieldLink RX12 22 "CowsOwedModel" "debts" "[I", .methodLink RX12 132 yX12_paysNow, .instanceMethod yX12_paysNow, .selects RX12 yX12_paysNow yX12_paysNow, .code yX12_paysNow cX12_paysNow 5 (some .int), .fieldLink RX12 19 "CowsOwedModel" "herds" "[I", .methodLink RX12 129 yX12_spareOf, .instanceMethod yX12_spareOf, .selects RX12 yX12_spareOf yX12_spareOf, .code yX12_spareOf cX12_spareOf 3 (some .int)] ++ wsX120)
def wsX12_wed_r1 : List Cond := [Cond.fieldLink RX12 114 "CowsOwedModel" "weddings" "I", Cond.fieldLink RX12 25 "CowsOwedModel" "rows" "[I", Cond.fieldLink RX12 16 "CowsOwedModel" "kinds" "[I", Cond.fieldLink RX12 108 "CowsOwedModel" "rateNow" "I", Cond.methodLink RX12 162 yX12_areTwo, Cond.instanceMethod yX12_areTwo, Cond.selects RX12 yX12_areTwo yX12_areTwo, Cond.initialized RX12, Cond.code yX12_areTwo cX12_areTwo 3 (some .boolean), Cond.methodLink RX12 126 yX12_isClan, Cond.instanceMethod yX12_isClan, Cond.selects RX12 yX12_isClan yX12_isClan, Cond.code yX12_isClan cX12_isClan 2 (some .boolean), Cond.fieldLink RX12 105 "CowsOwedModel" "clans" "I", Cond.methodLink RX12 73 yX12_in, Cond.static yX12_in, Cond.code yX12_in cX12_in 6 (some .boolean), Cond.methodLink RX12 140 yX12_asksBy, Cond.static yX12_asksBy, Cond.code yX12_asksBy cX12_asksBy 2 (some .int), Cond.methodLink RX12 166 yX12_marry, Cond.instanceMethod yX12_marry, Cond.selects RX12 yX12_marry yX12_marry, Cond.code yX12_marry cX12_marry 4 (some .int)]
def wsX12_wed_r2 : List Cond := [Cond.methodLink RX12 159 yX12_pays, Cond.instanceMethod yX12_pays, Cond.selects RX12 yX12_pays yX12_pays, Cond.code yX12_pays cX12_pays 5 (some .int), Cond.fieldLink RX12 22 "CowsOwedModel" "debts" "[I", Cond.methodLink RX12 132 yX12_paysNow, Cond.instanceMethod yX12_paysNow, Cond.selects RX12 yX12_paysNow yX12_paysNow, Cond.code yX12_paysNow cX12_paysNow 5 (some .int), Cond.fieldLink RX12 19 "CowsOwedModel" "herds" "[I", Cond.methodLink RX12 129 yX12_spareOf, Cond.instanceMethod yX12_spareOf, Cond.selects RX12 yX12_spareOf yX12_spareOf, Cond.code yX12_spareOf cX12_spareOf 3 (some .int)]
def wsX12_wed : List Cond := .code yX12_wed cX12_wed 4 (some .int) :: ((wsX12_wed_r1 ++ wsX12_wed_r2) ++ wsX120)
def wsX12_wedding : List Cond := .code yX12_wedding cX12_wedding 3 (some .int) :: ([.fieldLink RX12 114 "CowsOwedModel" "weddings" "I", .constantLong RX12 169 (3), .fieldLink RX12 25 "CowsOwedModel" "rows" "[I", .methodLink RX12 73 yX12_in, .static yX12_in, .initialized RX12, .code yX12_in cX12_in 6 (some .boolean)] ++ wsX120)
def wsX12_divorce : List Cond := .code yX12_divorce cX12_divorce 2 (some .int) :: ([.fieldLink RX12 114 "CowsOwedModel" "weddings" "I", .fieldLink RX12 25 "CowsOwedModel" "rows" "[I", .methodLink RX12 73 yX12_in, .static yX12_in, .initialized RX12, .code yX12_in cX12_in 6 (some .boolean), .methodLink RX12 159 yX12_pays, .instanceMethod yX12_pays, .selects RX12 yX12_pays yX12_pays, .code yX12_pays cX12_pays 5 (some .int), .fieldLink RX12 22 "CowsOwedModel" "debts" "[I", .methodLink RX12 132 yX12_paysNow, .instanceMethod yX12_paysNow, .selects RX12 yX12_paysNow yX12_paysNow, .code yX12_paysNow cX12_paysNow 5 (some .int), .fieldLink RX12 19 "CowsOwedModel" "herds" "[I", .methodLink RX12 129 yX12_spareOf, .instanceMethod yX12_spareOf, .selects RX12 yX12_spareOf yX12_spareOf, .code yX12_spareOf cX12_spareOf 3 (some .int), .fieldLink RX12 16 "CowsOwedModel" "kinds" "[I"] ++ wsX120)
def wsX12_passYear : List Cond := .code yX12_passYear cX12_passYear 4 none :: ([.fieldLink RX12 105 "CowsOwedModel" "clans" "I", .fieldLink RX12 19 "CowsOwedModel" "herds" "[I", .fieldLink RX12 22 "CowsOwedModel" "debts" "[I", .methodLink RX12 126 yX12_isClan, .instanceMethod yX12_isClan, .selects RX12 yX12_isClan yX12_isClan, .initialized RX12, .code yX12_isClan cX12_isClan 2 (some .boolean), .methodLink RX12 73 yX12_in, .static yX12_in, .code yX12_in cX12_in 6 (some .boolean), .methodLink RX12 132 yX12_paysNow, .instanceMethod yX12_paysNow, .selects RX12 yX12_paysNow yX12_paysNow, .code yX12_paysNow cX12_paysNow 5 (some .int), .methodLink RX12 129 yX12_spareOf, .instanceMethod yX12_spareOf, .selects RX12 yX12_spareOf yX12_spareOf, .code yX12_spareOf cX12_spareOf 3 (some .int), .fieldLink RX12 16 "CowsOwedModel" "kinds" "[I"] ++ wsX120)
def wsX12_year_r1 : List Cond := [Cond.fieldLink RX12 111 "CowsOwedModel" "yearsNow" "I", Cond.methodLink RX12 155 yX12_lacks, Cond.instanceMethod yX12_lacks, Cond.selects RX12 yX12_lacks yX12_lacks, Cond.initialized RX12, Cond.code yX12_lacks cX12_lacks 1 (some .boolean), Cond.fieldLink RX12 105 "CowsOwedModel" "clans" "I", Cond.methodLink RX12 171 yX12_passYear, Cond.instanceMethod yX12_passYear, Cond.selects RX12 yX12_passYear yX12_passYear, Cond.code yX12_passYear cX12_passYear 4 none, Cond.fieldLink RX12 19 "CowsOwedModel" "herds" "[I", Cond.fieldLink RX12 22 "CowsOwedModel" "debts" "[I", Cond.methodLink RX12 126 yX12_isClan, Cond.instanceMethod yX12_isClan, Cond.selects RX12 yX12_isClan yX12_isClan, Cond.code yX12_isClan cX12_isClan 2 (some .boolean), Cond.methodLink RX12 73 yX12_in, Cond.static yX12_in, Cond.code yX12_in cX12_in 6 (some .boolean), Cond.methodLink RX12 132 yX12_paysNow, Cond.instanceMethod yX12_paysNow, Cond.selects RX12 yX12_paysNow yX12_paysNow, Cond.code yX12_paysNow cX12_paysNow 5 (some .int)]
def wsX12_year_r2 : List Cond := [Cond.methodLink RX12 129 yX12_spareOf, Cond.instanceMethod yX12_spareOf, Cond.selects RX12 yX12_spareOf yX12_spareOf, Cond.code yX12_spareOf cX12_spareOf 3 (some .int), Cond.fieldLink RX12 16 "CowsOwedModel" "kinds" "[I", Cond.methodLink RX12 174 yX12_owedAll, Cond.instanceMethod yX12_owedAll, Cond.selects RX12 yX12_owedAll yX12_owedAll, Cond.code yX12_owedAll cX12_owedAll 3 (some .int)]
def wsX12_year : List Cond := .code yX12_year cX12_year 1 (some .int) :: ((wsX12_year_r1 ++ wsX12_year_r2) ++ wsX120)
def wsX12_settledOf : List Cond := .code yX12_settledOf cX12_settledOf 4 (some .int) :: ([.fieldLink RX12 105 "CowsOwedModel" "clans" "I", .methodLink RX12 147 yX12_owedTo, .instanceMethod yX12_owedTo, .selects RX12 yX12_owedTo yX12_owedTo, .initialized RX12, .code yX12_owedTo cX12_owedTo 2 (some .int), .fieldLink RX12 22 "CowsOwedModel" "debts" "[I", .methodLink RX12 144 yX12_owesOf, .instanceMethod yX12_owesOf, .selects RX12 yX12_owesOf yX12_owesOf, .code yX12_owesOf cX12_owesOf 2 (some .int)] ++ wsX120)
def wsX12_settled : List Cond := .code yX12_settled cX12_settled 1 (some .int) :: ([.methodLink RX12 155 yX12_lacks, .instanceMethod yX12_lacks, .selects RX12 yX12_lacks yX12_lacks, .initialized RX12, .code yX12_lacks cX12_lacks 1 (some .boolean), .fieldLink RX12 105 "CowsOwedModel" "clans" "I", .methodLink RX12 177 yX12_settledOf, .instanceMethod yX12_settledOf, .selects RX12 yX12_settledOf yX12_settledOf, .code yX12_settledOf cX12_settledOf 4 (some .int), .methodLink RX12 147 yX12_owedTo, .instanceMethod yX12_owedTo, .selects RX12 yX12_owedTo yX12_owedTo, .code yX12_owedTo cX12_owedTo 2 (some .int), .fieldLink RX12 22 "CowsOwedModel" "debts" "[I", .methodLink RX12 144 yX12_owesOf, .instanceMethod yX12_owesOf, .selects RX12 yX12_owesOf yX12_owesOf, .code yX12_owesOf cX12_owesOf 2 (some .int)] ++ wsX120)
def wsX12_layAside : List Cond := .code yX12_layAside cX12_layAside 1 none :: ([.fieldLink RX12 19 "CowsOwedModel" "herds" "[I", .fieldLink RX12 31 "CowsOwedModel" "savedHerds" "[I", .fieldLink RX12 22 "CowsOwedModel" "debts" "[I", .fieldLink RX12 34 "CowsOwedModel" "savedDebts" "[I", .methodLink RX12 180 yX12_copy, .static yX12_copy, .initialized RX12, .code yX12_copy cX12_copy 3 none] ++ wsX120)
def wsX12_layBack : List Cond := .code yX12_layBack cX12_layBack 1 none :: ([.fieldLink RX12 31 "CowsOwedModel" "savedHerds" "[I", .fieldLink RX12 19 "CowsOwedModel" "herds" "[I", .fieldLink RX12 34 "CowsOwedModel" "savedDebts" "[I", .fieldLink RX12 22 "CowsOwedModel" "debts" "[I", .methodLink RX12 180 yX12_copy, .static yX12_copy, .initialized RX12, .code yX12_copy cX12_copy 3 none] ++ wsX120)
def wsX12_plan : List Cond := .code yX12_plan cX12_plan 3 (some .int) :: ([.fieldLink RX12 117 "CowsOwedModel" "plans" "I", .fieldLink RX12 28 "CowsOwedModel" "planned" "[I", .methodLink RX12 162 yX12_areTwo, .instanceMethod yX12_areTwo, .selects RX12 yX12_areTwo yX12_areTwo, .initialized RX12, .code yX12_areTwo cX12_areTwo 3 (some .boolean), .methodLink RX12 126 yX12_isClan, .instanceMethod yX12_isClan, .selects RX12 yX12_isClan yX12_isClan, .code yX12_isClan cX12_isClan 2 (some .boolean), .fieldLink RX12 105 "CowsOwedModel" "clans" "I", .methodLink RX12 73 yX12_in, .static yX12_in, .code yX12_in cX12_in 6 (some .boolean)] ++ wsX120)
def wsX12_dream : List Cond := .code yX12_dream cX12_dream 2 (some .int) :: ([.fieldLink RX12 117 "CowsOwedModel" "plans" "I"] ++ wsX120)
def wsX12_isOrder : List Cond := .code yX12_isOrder cX12_isOrder 5 (some .boolean) :: ([.fieldLink RX12 117 "CowsOwedModel" "plans" "I", .fieldLink RX12 37 "CowsOwedModel" "row" "[I"] ++ wsX120)
def wsX12_layOrder_r1 : List Cond := [Cond.fieldLink RX12 117 "CowsOwedModel" "plans" "I", Cond.fieldLink RX12 28 "CowsOwedModel" "planned" "[I", Cond.fieldLink RX12 37 "CowsOwedModel" "row" "[I", Cond.fieldLink RX12 108 "CowsOwedModel" "rateNow" "I", Cond.fieldLink RX12 40 "CowsOwedModel" "bestRow" "[I", Cond.methodLink RX12 184 yX12_layAside, Cond.instanceMethod yX12_layAside, Cond.selects RX12 yX12_layAside yX12_layAside, Cond.initialized RX12, Cond.code yX12_layAside cX12_layAside 1 none, Cond.fieldLink RX12 19 "CowsOwedModel" "herds" "[I", Cond.fieldLink RX12 31 "CowsOwedModel" "savedHerds" "[I", Cond.fieldLink RX12 22 "CowsOwedModel" "debts" "[I", Cond.fieldLink RX12 34 "CowsOwedModel" "savedDebts" "[I", Cond.methodLink RX12 180 yX12_copy, Cond.static yX12_copy, Cond.code yX12_copy cX12_copy 3 none, Cond.methodLink RX12 187 yX12_isOrder, Cond.instanceMethod yX12_isOrder, Cond.selects RX12 yX12_isOrder yX12_isOrder, Cond.code yX12_isOrder cX12_isOrder 5 (some .boolean), Cond.methodLink RX12 166 yX12_marry, Cond.instanceMethod yX12_marry, Cond.selects RX12 yX12_marry yX12_marry]
def wsX12_layOrder_r2 : List Cond := [Cond.code yX12_marry cX12_marry 4 (some .int), Cond.fieldLink RX12 16 "CowsOwedModel" "kinds" "[I", Cond.methodLink RX12 140 yX12_asksBy, Cond.static yX12_asksBy, Cond.code yX12_asksBy cX12_asksBy 2 (some .int), Cond.methodLink RX12 159 yX12_pays, Cond.instanceMethod yX12_pays, Cond.selects RX12 yX12_pays yX12_pays, Cond.code yX12_pays cX12_pays 5 (some .int), Cond.methodLink RX12 132 yX12_paysNow, Cond.instanceMethod yX12_paysNow, Cond.selects RX12 yX12_paysNow yX12_paysNow, Cond.code yX12_paysNow cX12_paysNow 5 (some .int), Cond.methodLink RX12 129 yX12_spareOf, Cond.instanceMethod yX12_spareOf, Cond.selects RX12 yX12_spareOf yX12_spareOf, Cond.code yX12_spareOf cX12_spareOf 3 (some .int), Cond.methodLink RX12 174 yX12_owedAll, Cond.instanceMethod yX12_owedAll, Cond.selects RX12 yX12_owedAll yX12_owedAll, Cond.code yX12_owedAll cX12_owedAll 3 (some .int), Cond.methodLink RX12 190 yX12_layBack, Cond.instanceMethod yX12_layBack, Cond.selects RX12 yX12_layBack yX12_layBack]
def wsX12_layOrder_r3 : List Cond := [Cond.code yX12_layBack cX12_layBack 1 none]
def wsX12_layOrder : List Cond := .code yX12_layOrder cX12_layOrder 6 (some .int) :: ((wsX12_layOrder_r1 ++ (wsX12_layOrder_r2 ++ wsX12_layOrder_r3)) ++ wsX120)
def wsX12_orderOf_r1 : List Cond := [Cond.fieldLink RX12 117 "CowsOwedModel" "plans" "I", Cond.fieldLink RX12 40 "CowsOwedModel" "bestRow" "[I", Cond.methodLink RX12 193 yX12_layOrder, Cond.instanceMethod yX12_layOrder, Cond.selects RX12 yX12_layOrder yX12_layOrder, Cond.initialized RX12, Cond.code yX12_layOrder cX12_layOrder 6 (some .int), Cond.fieldLink RX12 28 "CowsOwedModel" "planned" "[I", Cond.fieldLink RX12 37 "CowsOwedModel" "row" "[I", Cond.fieldLink RX12 108 "CowsOwedModel" "rateNow" "I", Cond.methodLink RX12 184 yX12_layAside, Cond.instanceMethod yX12_layAside, Cond.selects RX12 yX12_layAside yX12_layAside, Cond.code yX12_layAside cX12_layAside 1 none, Cond.fieldLink RX12 19 "CowsOwedModel" "herds" "[I", Cond.fieldLink RX12 31 "CowsOwedModel" "savedHerds" "[I", Cond.fieldLink RX12 22 "CowsOwedModel" "debts" "[I", Cond.fieldLink RX12 34 "CowsOwedModel" "savedDebts" "[I", Cond.methodLink RX12 180 yX12_copy, Cond.static yX12_copy, Cond.code yX12_copy cX12_copy 3 none, Cond.methodLink RX12 187 yX12_isOrder, Cond.instanceMethod yX12_isOrder, Cond.selects RX12 yX12_isOrder yX12_isOrder]
def wsX12_orderOf_r2 : List Cond := [Cond.code yX12_isOrder cX12_isOrder 5 (some .boolean), Cond.methodLink RX12 166 yX12_marry, Cond.instanceMethod yX12_marry, Cond.selects RX12 yX12_marry yX12_marry, Cond.code yX12_marry cX12_marry 4 (some .int), Cond.fieldLink RX12 16 "CowsOwedModel" "kinds" "[I", Cond.methodLink RX12 140 yX12_asksBy, Cond.static yX12_asksBy, Cond.code yX12_asksBy cX12_asksBy 2 (some .int), Cond.methodLink RX12 159 yX12_pays, Cond.instanceMethod yX12_pays, Cond.selects RX12 yX12_pays yX12_pays, Cond.code yX12_pays cX12_pays 5 (some .int), Cond.methodLink RX12 132 yX12_paysNow, Cond.instanceMethod yX12_paysNow, Cond.selects RX12 yX12_paysNow yX12_paysNow, Cond.code yX12_paysNow cX12_paysNow 5 (some .int), Cond.methodLink RX12 129 yX12_spareOf, Cond.instanceMethod yX12_spareOf, Cond.selects RX12 yX12_spareOf yX12_spareOf, Cond.code yX12_spareOf cX12_spareOf 3 (some .int), Cond.methodLink RX12 174 yX12_owedAll, Cond.instanceMethod yX12_owedAll, Cond.selects RX12 yX12_owedAll yX12_owedAll]
def wsX12_orderOf_r3 : List Cond := [Cond.code yX12_owedAll cX12_owedAll 3 (some .int), Cond.methodLink RX12 190 yX12_layBack, Cond.instanceMethod yX12_layBack, Cond.selects RX12 yX12_layBack yX12_layBack, Cond.code yX12_layBack cX12_layBack 1 none]
def wsX12_orderOf : List Cond := .code yX12_orderOf cX12_orderOf 3 (some .int) :: ((wsX12_orderOf_r1 ++ (wsX12_orderOf_r2 ++ wsX12_orderOf_r3)) ++ wsX120)
def wsX12_order_r1 : List Cond := [Cond.constantLong RX12 136 (10), Cond.constantLong RX12 138 (13), Cond.methodLink RX12 73 yX12_in, Cond.static yX12_in, Cond.initialized RX12, Cond.code yX12_in cX12_in 6 (some .boolean), Cond.methodLink RX12 155 yX12_lacks, Cond.instanceMethod yX12_lacks, Cond.selects RX12 yX12_lacks yX12_lacks, Cond.code yX12_lacks cX12_lacks 1 (some .boolean), Cond.fieldLink RX12 105 "CowsOwedModel" "clans" "I", Cond.methodLink RX12 196 yX12_orderOf, Cond.instanceMethod yX12_orderOf, Cond.selects RX12 yX12_orderOf yX12_orderOf, Cond.code yX12_orderOf cX12_orderOf 3 (some .int), Cond.fieldLink RX12 117 "CowsOwedModel" "plans" "I", Cond.fieldLink RX12 40 "CowsOwedModel" "bestRow" "[I", Cond.methodLink RX12 193 yX12_layOrder, Cond.instanceMethod yX12_layOrder, Cond.selects RX12 yX12_layOrder yX12_layOrder, Cond.code yX12_layOrder cX12_layOrder 6 (some .int), Cond.fieldLink RX12 28 "CowsOwedModel" "planned" "[I", Cond.fieldLink RX12 37 "CowsOwedModel" "row" "[I", Cond.fieldLink RX12 108 "CowsOwedModel" "rateNow" "I"]
def wsX12_order_r2 : List Cond := [Cond.methodLink RX12 184 yX12_layAside, Cond.instanceMethod yX12_layAside, Cond.selects RX12 yX12_layAside yX12_layAside, Cond.code yX12_layAside cX12_layAside 1 none, Cond.fieldLink RX12 19 "CowsOwedModel" "herds" "[I", Cond.fieldLink RX12 31 "CowsOwedModel" "savedHerds" "[I", Cond.fieldLink RX12 22 "CowsOwedModel" "debts" "[I", Cond.fieldLink RX12 34 "CowsOwedModel" "savedDebts" "[I", Cond.methodLink RX12 180 yX12_copy, Cond.static yX12_copy, Cond.code yX12_copy cX12_copy 3 none, Cond.methodLink RX12 187 yX12_isOrder, Cond.instanceMethod yX12_isOrder, Cond.selects RX12 yX12_isOrder yX12_isOrder, Cond.code yX12_isOrder cX12_isOrder 5 (some .boolean), Cond.methodLink RX12 166 yX12_marry, Cond.instanceMethod yX12_marry, Cond.selects RX12 yX12_marry yX12_marry, Cond.code yX12_marry cX12_marry 4 (some .int), Cond.fieldLink RX12 16 "CowsOwedModel" "kinds" "[I", Cond.methodLink RX12 140 yX12_asksBy, Cond.static yX12_asksBy, Cond.code yX12_asksBy cX12_asksBy 2 (some .int), Cond.methodLink RX12 159 yX12_pays]
def wsX12_order_r3 : List Cond := [Cond.instanceMethod yX12_pays, Cond.selects RX12 yX12_pays yX12_pays, Cond.code yX12_pays cX12_pays 5 (some .int), Cond.methodLink RX12 132 yX12_paysNow, Cond.instanceMethod yX12_paysNow, Cond.selects RX12 yX12_paysNow yX12_paysNow, Cond.code yX12_paysNow cX12_paysNow 5 (some .int), Cond.methodLink RX12 129 yX12_spareOf, Cond.instanceMethod yX12_spareOf, Cond.selects RX12 yX12_spareOf yX12_spareOf, Cond.code yX12_spareOf cX12_spareOf 3 (some .int), Cond.methodLink RX12 174 yX12_owedAll, Cond.instanceMethod yX12_owedAll, Cond.selects RX12 yX12_owedAll yX12_owedAll, Cond.code yX12_owedAll cX12_owedAll 3 (some .int), Cond.methodLink RX12 190 yX12_layBack, Cond.instanceMethod yX12_layBack, Cond.selects RX12 yX12_layBack yX12_layBack, Cond.code yX12_layBack cX12_layBack 1 none]
def wsX12_order : List Cond := .code yX12_order cX12_order 2 (some .int) :: ((wsX12_order_r1 ++ (wsX12_order_r2 ++ wsX12_order_r3)) ++ wsX120)
def wsX12_highOf_r1 : List Cond := [Cond.fieldLink RX12 105 "CowsOwedModel" "clans" "I", Cond.fieldLink RX12 43 "CowsOwedModel" "owedBefore" "[I", Cond.fieldLink RX12 117 "CowsOwedModel" "plans" "I", Cond.fieldLink RX12 28 "CowsOwedModel" "planned" "[I", Cond.methodLink RX12 144 yX12_owesOf, Cond.instanceMethod yX12_owesOf, Cond.selects RX12 yX12_owesOf yX12_owesOf, Cond.initialized RX12, Cond.code yX12_owesOf cX12_owesOf 2 (some .int), Cond.fieldLink RX12 22 "CowsOwedModel" "debts" "[I", Cond.methodLink RX12 184 yX12_layAside, Cond.instanceMethod yX12_layAside, Cond.selects RX12 yX12_layAside yX12_layAside, Cond.code yX12_layAside cX12_layAside 1 none, Cond.fieldLink RX12 19 "CowsOwedModel" "herds" "[I", Cond.fieldLink RX12 31 "CowsOwedModel" "savedHerds" "[I", Cond.fieldLink RX12 34 "CowsOwedModel" "savedDebts" "[I", Cond.methodLink RX12 180 yX12_copy, Cond.static yX12_copy, Cond.code yX12_copy cX12_copy 3 none, Cond.methodLink RX12 166 yX12_marry, Cond.instanceMethod yX12_marry, Cond.selects RX12 yX12_marry yX12_marry, Cond.code yX12_marry cX12_marry 4 (some .int)]
def wsX12_highOf_r2 : List Cond := [Cond.fieldLink RX12 16 "CowsOwedModel" "kinds" "[I", Cond.methodLink RX12 140 yX12_asksBy, Cond.static yX12_asksBy, Cond.code yX12_asksBy cX12_asksBy 2 (some .int), Cond.methodLink RX12 159 yX12_pays, Cond.instanceMethod yX12_pays, Cond.selects RX12 yX12_pays yX12_pays, Cond.code yX12_pays cX12_pays 5 (some .int), Cond.methodLink RX12 132 yX12_paysNow, Cond.instanceMethod yX12_paysNow, Cond.selects RX12 yX12_paysNow yX12_paysNow, Cond.code yX12_paysNow cX12_paysNow 5 (some .int), Cond.methodLink RX12 129 yX12_spareOf, Cond.instanceMethod yX12_spareOf, Cond.selects RX12 yX12_spareOf yX12_spareOf, Cond.code yX12_spareOf cX12_spareOf 3 (some .int), Cond.methodLink RX12 190 yX12_layBack, Cond.instanceMethod yX12_layBack, Cond.selects RX12 yX12_layBack yX12_layBack, Cond.code yX12_layBack cX12_layBack 1 none]
def wsX12_highOf : List Cond := .code yX12_highOf cX12_highOf 5 (some .int) :: ((wsX12_highOf_r1 ++ wsX12_highOf_r2) ++ wsX120)
def wsX12_high_r1 : List Cond := [Cond.methodLink RX12 155 yX12_lacks, Cond.instanceMethod yX12_lacks, Cond.selects RX12 yX12_lacks yX12_lacks, Cond.initialized RX12, Cond.code yX12_lacks cX12_lacks 1 (some .boolean), Cond.fieldLink RX12 105 "CowsOwedModel" "clans" "I", Cond.methodLink RX12 199 yX12_highOf, Cond.instanceMethod yX12_highOf, Cond.selects RX12 yX12_highOf yX12_highOf, Cond.code yX12_highOf cX12_highOf 5 (some .int), Cond.fieldLink RX12 43 "CowsOwedModel" "owedBefore" "[I", Cond.fieldLink RX12 117 "CowsOwedModel" "plans" "I", Cond.fieldLink RX12 28 "CowsOwedModel" "planned" "[I", Cond.methodLink RX12 144 yX12_owesOf, Cond.instanceMethod yX12_owesOf, Cond.selects RX12 yX12_owesOf yX12_owesOf, Cond.code yX12_owesOf cX12_owesOf 2 (some .int), Cond.fieldLink RX12 22 "CowsOwedModel" "debts" "[I", Cond.methodLink RX12 184 yX12_layAside, Cond.instanceMethod yX12_layAside, Cond.selects RX12 yX12_layAside yX12_layAside, Cond.code yX12_layAside cX12_layAside 1 none, Cond.fieldLink RX12 19 "CowsOwedModel" "herds" "[I", Cond.fieldLink RX12 31 "CowsOwedModel" "savedHerds" "[I"]
def wsX12_high_r2 : List Cond := [Cond.fieldLink RX12 34 "CowsOwedModel" "savedDebts" "[I", Cond.methodLink RX12 180 yX12_copy, Cond.static yX12_copy, Cond.code yX12_copy cX12_copy 3 none, Cond.methodLink RX12 166 yX12_marry, Cond.instanceMethod yX12_marry, Cond.selects RX12 yX12_marry yX12_marry, Cond.code yX12_marry cX12_marry 4 (some .int), Cond.fieldLink RX12 16 "CowsOwedModel" "kinds" "[I", Cond.methodLink RX12 140 yX12_asksBy, Cond.static yX12_asksBy, Cond.code yX12_asksBy cX12_asksBy 2 (some .int), Cond.methodLink RX12 159 yX12_pays, Cond.instanceMethod yX12_pays, Cond.selects RX12 yX12_pays yX12_pays, Cond.code yX12_pays cX12_pays 5 (some .int), Cond.methodLink RX12 132 yX12_paysNow, Cond.instanceMethod yX12_paysNow, Cond.selects RX12 yX12_paysNow yX12_paysNow, Cond.code yX12_paysNow cX12_paysNow 5 (some .int), Cond.methodLink RX12 129 yX12_spareOf, Cond.instanceMethod yX12_spareOf, Cond.selects RX12 yX12_spareOf yX12_spareOf, Cond.code yX12_spareOf cX12_spareOf 3 (some .int)]
def wsX12_high_r3 : List Cond := [Cond.methodLink RX12 190 yX12_layBack, Cond.instanceMethod yX12_layBack, Cond.selects RX12 yX12_layBack yX12_layBack, Cond.code yX12_layBack cX12_layBack 1 none]
def wsX12_high : List Cond := .code yX12_high cX12_high 1 (some .int) :: ((wsX12_high_r1 ++ (wsX12_high_r2 ++ wsX12_high_r3)) ++ wsX120)
def wsX12_tell : List Cond := .code yX12_tell cX12_tell 3 (some .int) :: ([.constantLong RX12 90 (9), .constantLong RX12 202 (20), .fieldLink RX12 120 "CowsOwedModel" "toldMany" "I", .fieldLink RX12 46 "CowsOwedModel" "told" "[I", .methodLink RX12 73 yX12_in, .static yX12_in, .initialized RX12, .code yX12_in cX12_in 6 (some .boolean)] ++ wsX120)
def wsX12_forget : List Cond := .code yX12_forget cX12_forget 2 (some .int) :: ([.fieldLink RX12 120 "CowsOwedModel" "toldMany" "I"] ++ wsX120)
def wsX12_whichOf : List Cond := .code yX12_whichOf cX12_whichOf 5 (some .int) :: ([.fieldLink RX12 120 "CowsOwedModel" "toldMany" "I", .fieldLink RX12 46 "CowsOwedModel" "told" "[I", .methodLink RX12 140 yX12_asksBy, .static yX12_asksBy, .initialized RX12, .code yX12_asksBy cX12_asksBy 2 (some .int)] ++ wsX120)
def wsX12_which : List Cond := .code yX12_which cX12_which 1 (some .int) :: ([.methodLink RX12 204 yX12_whichOf, .instanceMethod yX12_whichOf, .selects RX12 yX12_whichOf yX12_whichOf, .initialized RX12, .code yX12_whichOf cX12_whichOf 5 (some .int), .fieldLink RX12 120 "CowsOwedModel" "toldMany" "I", .fieldLink RX12 46 "CowsOwedModel" "told" "[I", .methodLink RX12 140 yX12_asksBy, .static yX12_asksBy, .code yX12_asksBy cX12_asksBy 2 (some .int)] ++ wsX120)
def wsX12_askOf : List Cond := .code yX12_askOf cX12_askOf 8 (some .int) :: ([.fieldLink RX12 49 "CowsOwedModel" "parts" "[I", .methodLink RX12 204 yX12_whichOf, .instanceMethod yX12_whichOf, .selects RX12 yX12_whichOf yX12_whichOf, .initialized RX12, .code yX12_whichOf cX12_whichOf 5 (some .int), .fieldLink RX12 120 "CowsOwedModel" "toldMany" "I", .fieldLink RX12 46 "CowsOwedModel" "told" "[I", .methodLink RX12 140 yX12_asksBy, .static yX12_asksBy, .code yX12_asksBy cX12_asksBy 2 (some .int)] ++ wsX120)
def wsX12_ask : List Cond := .code yX12_ask cX12_ask 1 (some .int) :: ([.methodLink RX12 207 yX12_askOf, .instanceMethod yX12_askOf, .selects RX12 yX12_askOf yX12_askOf, .initialized RX12, .code yX12_askOf cX12_askOf 8 (some .int), .fieldLink RX12 49 "CowsOwedModel" "parts" "[I", .methodLink RX12 204 yX12_whichOf, .instanceMethod yX12_whichOf, .selects RX12 yX12_whichOf yX12_whichOf, .code yX12_whichOf cX12_whichOf 5 (some .int), .fieldLink RX12 120 "CowsOwedModel" "toldMany" "I", .fieldLink RX12 46 "CowsOwedModel" "told" "[I", .methodLink RX12 140 yX12_asksBy, .static yX12_asksBy, .code yX12_asksBy cX12_asksBy 2 (some .int)] ++ wsX120)
def wsX12_draw : List Cond := .code yX12_draw cX12_draw 2 (some .int) :: ([.constantLong RX12 210 (1103515245), .fieldLink RX12 212 "CowsOwedModel" "seedNow" "I", .constantLong RX12 215 (12345), .constantLong RX12 217 (2147483647), .constant RX12 219 (65536)] ++ wsX120)
def wsX12_ages_r1 : List Cond := [Cond.constantLong RX12 220 (40), Cond.constantLong RX12 222 (2), Cond.fieldLink RX12 212 "CowsOwedModel" "seedNow" "I", Cond.fieldLink RX12 105 "CowsOwedModel" "clans" "I", Cond.fieldLink RX12 108 "CowsOwedModel" "rateNow" "I", Cond.methodLink RX12 73 yX12_in, Cond.static yX12_in, Cond.initialized RX12, Cond.code yX12_in cX12_in 6 (some .boolean), Cond.methodLink RX12 155 yX12_lacks, Cond.instanceMethod yX12_lacks, Cond.selects RX12 yX12_lacks yX12_lacks, Cond.code yX12_lacks cX12_lacks 1 (some .boolean), Cond.methodLink RX12 184 yX12_layAside, Cond.instanceMethod yX12_layAside, Cond.selects RX12 yX12_layAside yX12_layAside, Cond.code yX12_layAside cX12_layAside 1 none, Cond.fieldLink RX12 19 "CowsOwedModel" "herds" "[I", Cond.fieldLink RX12 31 "CowsOwedModel" "savedHerds" "[I", Cond.fieldLink RX12 22 "CowsOwedModel" "debts" "[I", Cond.fieldLink RX12 34 "CowsOwedModel" "savedDebts" "[I", Cond.methodLink RX12 180 yX12_copy, Cond.static yX12_copy, Cond.code yX12_copy cX12_copy 3 none]
def wsX12_ages_r2 : List Cond := [Cond.methodLink RX12 224 yX12_draw, Cond.instanceMethod yX12_draw, Cond.selects RX12 yX12_draw yX12_draw, Cond.code yX12_draw cX12_draw 2 (some .int), Cond.constantLong RX12 210 (1103515245), Cond.constantLong RX12 215 (12345), Cond.constantLong RX12 217 (2147483647), Cond.constant RX12 219 (65536), Cond.methodLink RX12 166 yX12_marry, Cond.instanceMethod yX12_marry, Cond.selects RX12 yX12_marry yX12_marry, Cond.code yX12_marry cX12_marry 4 (some .int), Cond.fieldLink RX12 16 "CowsOwedModel" "kinds" "[I", Cond.methodLink RX12 140 yX12_asksBy, Cond.static yX12_asksBy, Cond.code yX12_asksBy cX12_asksBy 2 (some .int), Cond.methodLink RX12 159 yX12_pays, Cond.instanceMethod yX12_pays, Cond.selects RX12 yX12_pays yX12_pays, Cond.code yX12_pays cX12_pays 5 (some .int), Cond.methodLink RX12 132 yX12_paysNow, Cond.instanceMethod yX12_paysNow, Cond.selects RX12 yX12_paysNow yX12_paysNow, Cond.code yX12_paysNow cX12_paysNow 5 (some .int)]
def wsX12_ages_r3 : List Cond := [Cond.methodLink RX12 129 yX12_spareOf, Cond.instanceMethod yX12_spareOf, Cond.selects RX12 yX12_spareOf yX12_spareOf, Cond.code yX12_spareOf cX12_spareOf 3 (some .int), Cond.methodLink RX12 171 yX12_passYear, Cond.instanceMethod yX12_passYear, Cond.selects RX12 yX12_passYear yX12_passYear, Cond.code yX12_passYear cX12_passYear 4 none, Cond.methodLink RX12 126 yX12_isClan, Cond.instanceMethod yX12_isClan, Cond.selects RX12 yX12_isClan yX12_isClan, Cond.code yX12_isClan cX12_isClan 2 (some .boolean), Cond.methodLink RX12 174 yX12_owedAll, Cond.instanceMethod yX12_owedAll, Cond.selects RX12 yX12_owedAll yX12_owedAll, Cond.code yX12_owedAll cX12_owedAll 3 (some .int), Cond.methodLink RX12 227 yX12_cowsAll, Cond.instanceMethod yX12_cowsAll, Cond.selects RX12 yX12_cowsAll yX12_cowsAll, Cond.code yX12_cowsAll cX12_cowsAll 3 (some .int), Cond.methodLink RX12 190 yX12_layBack, Cond.instanceMethod yX12_layBack, Cond.selects RX12 yX12_layBack yX12_layBack, Cond.code yX12_layBack cX12_layBack 1 none]
def wsX12_ages : List Cond := .code yX12_ages cX12_ages 8 (some .int) :: ((wsX12_ages_r1 ++ (wsX12_ages_r2 ++ wsX12_ages_r3)) ++ wsX120)
def wsX12_image_r1 : List Cond := [Cond.fieldLink RX12 19 "CowsOwedModel" "herds" "[I", Cond.fieldLink RX12 52 "CowsOwedModel" "keptHerds" "[I", Cond.fieldLink RX12 22 "CowsOwedModel" "debts" "[I", Cond.fieldLink RX12 55 "CowsOwedModel" "keptDebts" "[I", Cond.fieldLink RX12 25 "CowsOwedModel" "rows" "[I", Cond.fieldLink RX12 58 "CowsOwedModel" "keptRows" "[I", Cond.fieldLink RX12 28 "CowsOwedModel" "planned" "[I", Cond.fieldLink RX12 61 "CowsOwedModel" "keptPlanned" "[I", Cond.fieldLink RX12 46 "CowsOwedModel" "told" "[I", Cond.fieldLink RX12 64 "CowsOwedModel" "keptTold" "[I", Cond.fieldLink RX12 108 "CowsOwedModel" "rateNow" "I", Cond.fieldLink RX12 230 "CowsOwedModel" "keptRate" "I", Cond.fieldLink RX12 111 "CowsOwedModel" "yearsNow" "I", Cond.fieldLink RX12 233 "CowsOwedModel" "keptYears" "I", Cond.fieldLink RX12 114 "CowsOwedModel" "weddings" "I", Cond.fieldLink RX12 236 "CowsOwedModel" "keptWeddings" "I", Cond.fieldLink RX12 117 "CowsOwedModel" "plans" "I", Cond.fieldLink RX12 239 "CowsOwedModel" "keptPlans" "I", Cond.fieldLink RX12 120 "CowsOwedModel" "toldMany" "I", Cond.fieldLink RX12 242 "CowsOwedModel" "keptToldMany" "I", Cond.fieldLink RX12 123 "CowsOwedModel" "hillsRead" "I", Cond.fieldLink RX12 67 "CowsOwedModel" "keptHills" "I", Cond.methodLink RX12 155 yX12_lacks, Cond.instanceMethod yX12_lacks]
def wsX12_image_r2 : List Cond := [Cond.selects RX12 yX12_lacks yX12_lacks, Cond.initialized RX12, Cond.code yX12_lacks cX12_lacks 1 (some .boolean), Cond.fieldLink RX12 105 "CowsOwedModel" "clans" "I", Cond.methodLink RX12 180 yX12_copy, Cond.static yX12_copy, Cond.code yX12_copy cX12_copy 3 none]
def wsX12_image : List Cond := .code yX12_image cX12_image 1 (some .int) :: ((wsX12_image_r1 ++ wsX12_image_r2) ++ wsX120)
def wsX12_restore_r1 : List Cond := [Cond.fieldLink RX12 67 "CowsOwedModel" "keptHills" "I", Cond.fieldLink RX12 123 "CowsOwedModel" "hillsRead" "I", Cond.fieldLink RX12 52 "CowsOwedModel" "keptHerds" "[I", Cond.fieldLink RX12 19 "CowsOwedModel" "herds" "[I", Cond.fieldLink RX12 55 "CowsOwedModel" "keptDebts" "[I", Cond.fieldLink RX12 22 "CowsOwedModel" "debts" "[I", Cond.fieldLink RX12 58 "CowsOwedModel" "keptRows" "[I", Cond.fieldLink RX12 25 "CowsOwedModel" "rows" "[I", Cond.fieldLink RX12 61 "CowsOwedModel" "keptPlanned" "[I", Cond.fieldLink RX12 28 "CowsOwedModel" "planned" "[I", Cond.fieldLink RX12 64 "CowsOwedModel" "keptTold" "[I", Cond.fieldLink RX12 46 "CowsOwedModel" "told" "[I", Cond.fieldLink RX12 230 "CowsOwedModel" "keptRate" "I", Cond.fieldLink RX12 108 "CowsOwedModel" "rateNow" "I", Cond.fieldLink RX12 233 "CowsOwedModel" "keptYears" "I", Cond.fieldLink RX12 111 "CowsOwedModel" "yearsNow" "I", Cond.fieldLink RX12 236 "CowsOwedModel" "keptWeddings" "I", Cond.fieldLink RX12 114 "CowsOwedModel" "weddings" "I", Cond.fieldLink RX12 239 "CowsOwedModel" "keptPlans" "I", Cond.fieldLink RX12 117 "CowsOwedModel" "plans" "I", Cond.fieldLink RX12 242 "CowsOwedModel" "keptToldMany" "I", Cond.fieldLink RX12 120 "CowsOwedModel" "toldMany" "I", Cond.methodLink RX12 180 yX12_copy, Cond.static yX12_copy]
def wsX12_restore_r2 : List Cond := [Cond.initialized RX12, Cond.code yX12_copy cX12_copy 3 none]
def wsX12_restore : List Cond := .code yX12_restore cX12_restore 1 (some .int) :: ((wsX12_restore_r1 ++ wsX12_restore_r2) ++ wsX120)
def wsX12_countOf : List Cond := .code yX12_countOf cX12_countOf 2 (some .int) :: ([.fieldLink RX12 105 "CowsOwedModel" "clans" "I", .fieldLink RX12 108 "CowsOwedModel" "rateNow" "I", .fieldLink RX12 114 "CowsOwedModel" "weddings" "I", .fieldLink RX12 111 "CowsOwedModel" "yearsNow" "I", .fieldLink RX12 117 "CowsOwedModel" "plans" "I", .fieldLink RX12 120 "CowsOwedModel" "toldMany" "I", .fieldLink RX12 77 "CowsOwedModel" "pageMany" "I", .fieldLink RX12 123 "CowsOwedModel" "hillsRead" "I", .methodLink RX12 227 yX12_cowsAll, .instanceMethod yX12_cowsAll, .selects RX12 yX12_cowsAll yX12_cowsAll, .initialized RX12, .code yX12_cowsAll cX12_cowsAll 3 (some .int), .fieldLink RX12 19 "CowsOwedModel" "herds" "[I", .methodLink RX12 174 yX12_owedAll, .instanceMethod yX12_owedAll, .selects RX12 yX12_owedAll yX12_owedAll, .code yX12_owedAll cX12_owedAll 3 (some .int), .fieldLink RX12 22 "CowsOwedModel" "debts" "[I"] ++ wsX120)
def wsX12_count : List Cond := .code yX12_count cX12_count 2 (some .int) :: ([.methodLink RX12 245 yX12_countOf, .instanceMethod yX12_countOf, .selects RX12 yX12_countOf yX12_countOf, .initialized RX12, .code yX12_countOf cX12_countOf 2 (some .int), .fieldLink RX12 105 "CowsOwedModel" "clans" "I", .fieldLink RX12 108 "CowsOwedModel" "rateNow" "I", .fieldLink RX12 114 "CowsOwedModel" "weddings" "I", .fieldLink RX12 111 "CowsOwedModel" "yearsNow" "I", .fieldLink RX12 117 "CowsOwedModel" "plans" "I", .fieldLink RX12 120 "CowsOwedModel" "toldMany" "I", .fieldLink RX12 77 "CowsOwedModel" "pageMany" "I", .fieldLink RX12 123 "CowsOwedModel" "hillsRead" "I", .methodLink RX12 227 yX12_cowsAll, .instanceMethod yX12_cowsAll, .selects RX12 yX12_cowsAll yX12_cowsAll, .code yX12_cowsAll cX12_cowsAll 3 (some .int), .fieldLink RX12 19 "CowsOwedModel" "herds" "[I", .methodLink RX12 174 yX12_owedAll, .instanceMethod yX12_owedAll, .selects RX12 yX12_owedAll yX12_owedAll, .code yX12_owedAll cX12_owedAll 3 (some .int), .fieldLink RX12 22 "CowsOwedModel" "debts" "[I"] ++ wsX120)
def wsX12_say : List Cond := .code yX12_say cX12_say 3 none :: ([.constantLong RX12 248 (31), .fieldLink RX12 250 "CowsOwedModel" "hash" "J"] ++ wsX120)
def wsX12_sayClan_r1 : List Cond := [Cond.methodLink RX12 150 yX12_clanOf, Cond.instanceMethod yX12_clanOf, Cond.selects RX12 yX12_clanOf yX12_clanOf, Cond.initialized RX12, Cond.code yX12_clanOf cX12_clanOf 3 (some .int), Cond.constantLong RX12 136 (10), Cond.constantLong RX12 138 (13), Cond.fieldLink RX12 22 "CowsOwedModel" "debts" "[I", Cond.fieldLink RX12 16 "CowsOwedModel" "kinds" "[I", Cond.fieldLink RX12 19 "CowsOwedModel" "herds" "[I", Cond.fieldLink RX12 108 "CowsOwedModel" "rateNow" "I", Cond.methodLink RX12 73 yX12_in, Cond.static yX12_in, Cond.code yX12_in cX12_in 6 (some .boolean), Cond.methodLink RX12 140 yX12_asksBy, Cond.static yX12_asksBy, Cond.code yX12_asksBy cX12_asksBy 2 (some .int), Cond.methodLink RX12 129 yX12_spareOf, Cond.instanceMethod yX12_spareOf, Cond.selects RX12 yX12_spareOf yX12_spareOf, Cond.code yX12_spareOf cX12_spareOf 3 (some .int), Cond.methodLink RX12 144 yX12_owesOf, Cond.instanceMethod yX12_owesOf, Cond.selects RX12 yX12_owesOf yX12_owesOf]
def wsX12_sayClan_r2 : List Cond := [Cond.code yX12_owesOf cX12_owesOf 2 (some .int), Cond.methodLink RX12 147 yX12_owedTo, Cond.instanceMethod yX12_owedTo, Cond.selects RX12 yX12_owedTo yX12_owedTo, Cond.code yX12_owedTo cX12_owedTo 2 (some .int), Cond.methodLink RX12 254 yX12_say, Cond.instanceMethod yX12_say, Cond.selects RX12 yX12_say yX12_say, Cond.code yX12_say cX12_say 3 none, Cond.constantLong RX12 248 (31), Cond.fieldLink RX12 250 "CowsOwedModel" "hash" "J"]
def wsX12_sayClan : List Cond := .code yX12_sayClan cX12_sayClan 3 none :: ((wsX12_sayClan_r1 ++ wsX12_sayClan_r2) ++ wsX120)
def wsX12_digest_r1 : List Cond := [Cond.constantLong RX12 258 (967), Cond.fieldLink RX12 250 "CowsOwedModel" "hash" "J", Cond.fieldLink RX12 105 "CowsOwedModel" "clans" "I", Cond.fieldLink RX12 114 "CowsOwedModel" "weddings" "I", Cond.fieldLink RX12 25 "CowsOwedModel" "rows" "[I", Cond.fieldLink RX12 77 "CowsOwedModel" "pageMany" "I", Cond.fieldLink RX12 7 "CowsOwedModel" "page" "[I", Cond.methodLink RX12 260 yX12_sayClan, Cond.instanceMethod yX12_sayClan, Cond.selects RX12 yX12_sayClan yX12_sayClan, Cond.initialized RX12, Cond.code yX12_sayClan cX12_sayClan 3 none, Cond.methodLink RX12 150 yX12_clanOf, Cond.instanceMethod yX12_clanOf, Cond.selects RX12 yX12_clanOf yX12_clanOf, Cond.code yX12_clanOf cX12_clanOf 3 (some .int), Cond.constantLong RX12 136 (10), Cond.constantLong RX12 138 (13), Cond.fieldLink RX12 22 "CowsOwedModel" "debts" "[I", Cond.fieldLink RX12 16 "CowsOwedModel" "kinds" "[I", Cond.fieldLink RX12 19 "CowsOwedModel" "herds" "[I", Cond.fieldLink RX12 108 "CowsOwedModel" "rateNow" "I", Cond.methodLink RX12 73 yX12_in, Cond.static yX12_in]
def wsX12_digest_r2 : List Cond := [Cond.code yX12_in cX12_in 6 (some .boolean), Cond.methodLink RX12 140 yX12_asksBy, Cond.static yX12_asksBy, Cond.code yX12_asksBy cX12_asksBy 2 (some .int), Cond.methodLink RX12 129 yX12_spareOf, Cond.instanceMethod yX12_spareOf, Cond.selects RX12 yX12_spareOf yX12_spareOf, Cond.code yX12_spareOf cX12_spareOf 3 (some .int), Cond.methodLink RX12 144 yX12_owesOf, Cond.instanceMethod yX12_owesOf, Cond.selects RX12 yX12_owesOf yX12_owesOf, Cond.code yX12_owesOf cX12_owesOf 2 (some .int), Cond.methodLink RX12 147 yX12_owedTo, Cond.instanceMethod yX12_owedTo, Cond.selects RX12 yX12_owedTo yX12_owedTo, Cond.code yX12_owedTo cX12_owedTo 2 (some .int), Cond.methodLink RX12 254 yX12_say, Cond.instanceMethod yX12_say, Cond.selects RX12 yX12_say yX12_say, Cond.code yX12_say cX12_say 3 none, Cond.constantLong RX12 248 (31), Cond.methodLink RX12 155 yX12_lacks, Cond.instanceMethod yX12_lacks, Cond.selects RX12 yX12_lacks yX12_lacks]
def wsX12_digest_r3 : List Cond := [Cond.code yX12_lacks cX12_lacks 1 (some .boolean), Cond.methodLink RX12 177 yX12_settledOf, Cond.instanceMethod yX12_settledOf, Cond.selects RX12 yX12_settledOf yX12_settledOf, Cond.code yX12_settledOf cX12_settledOf 4 (some .int), Cond.methodLink RX12 196 yX12_orderOf, Cond.instanceMethod yX12_orderOf, Cond.selects RX12 yX12_orderOf yX12_orderOf, Cond.code yX12_orderOf cX12_orderOf 3 (some .int), Cond.fieldLink RX12 117 "CowsOwedModel" "plans" "I", Cond.fieldLink RX12 40 "CowsOwedModel" "bestRow" "[I", Cond.methodLink RX12 193 yX12_layOrder, Cond.instanceMethod yX12_layOrder, Cond.selects RX12 yX12_layOrder yX12_layOrder, Cond.code yX12_layOrder cX12_layOrder 6 (some .int), Cond.fieldLink RX12 28 "CowsOwedModel" "planned" "[I", Cond.fieldLink RX12 37 "CowsOwedModel" "row" "[I", Cond.methodLink RX12 184 yX12_layAside, Cond.instanceMethod yX12_layAside, Cond.selects RX12 yX12_layAside yX12_layAside, Cond.code yX12_layAside cX12_layAside 1 none, Cond.fieldLink RX12 31 "CowsOwedModel" "savedHerds" "[I", Cond.fieldLink RX12 34 "CowsOwedModel" "savedDebts" "[I", Cond.methodLink RX12 180 yX12_copy]
def wsX12_digest_r4 : List Cond := [Cond.static yX12_copy, Cond.code yX12_copy cX12_copy 3 none, Cond.methodLink RX12 187 yX12_isOrder, Cond.instanceMethod yX12_isOrder, Cond.selects RX12 yX12_isOrder yX12_isOrder, Cond.code yX12_isOrder cX12_isOrder 5 (some .boolean), Cond.methodLink RX12 166 yX12_marry, Cond.instanceMethod yX12_marry, Cond.selects RX12 yX12_marry yX12_marry, Cond.code yX12_marry cX12_marry 4 (some .int), Cond.methodLink RX12 159 yX12_pays, Cond.instanceMethod yX12_pays, Cond.selects RX12 yX12_pays yX12_pays, Cond.code yX12_pays cX12_pays 5 (some .int), Cond.methodLink RX12 132 yX12_paysNow, Cond.instanceMethod yX12_paysNow, Cond.selects RX12 yX12_paysNow yX12_paysNow, Cond.code yX12_paysNow cX12_paysNow 5 (some .int), Cond.methodLink RX12 174 yX12_owedAll, Cond.instanceMethod yX12_owedAll, Cond.selects RX12 yX12_owedAll yX12_owedAll, Cond.code yX12_owedAll cX12_owedAll 3 (some .int), Cond.methodLink RX12 190 yX12_layBack, Cond.instanceMethod yX12_layBack]
def wsX12_digest_r5 : List Cond := [Cond.selects RX12 yX12_layBack yX12_layBack, Cond.code yX12_layBack cX12_layBack 1 none, Cond.methodLink RX12 199 yX12_highOf, Cond.instanceMethod yX12_highOf, Cond.selects RX12 yX12_highOf yX12_highOf, Cond.code yX12_highOf cX12_highOf 5 (some .int), Cond.fieldLink RX12 43 "CowsOwedModel" "owedBefore" "[I", Cond.methodLink RX12 204 yX12_whichOf, Cond.instanceMethod yX12_whichOf, Cond.selects RX12 yX12_whichOf yX12_whichOf, Cond.code yX12_whichOf cX12_whichOf 5 (some .int), Cond.fieldLink RX12 120 "CowsOwedModel" "toldMany" "I", Cond.fieldLink RX12 46 "CowsOwedModel" "told" "[I", Cond.methodLink RX12 207 yX12_askOf, Cond.instanceMethod yX12_askOf, Cond.selects RX12 yX12_askOf yX12_askOf, Cond.code yX12_askOf cX12_askOf 8 (some .int), Cond.fieldLink RX12 49 "CowsOwedModel" "parts" "[I", Cond.methodLink RX12 245 yX12_countOf, Cond.instanceMethod yX12_countOf, Cond.selects RX12 yX12_countOf yX12_countOf, Cond.code yX12_countOf cX12_countOf 2 (some .int), Cond.fieldLink RX12 111 "CowsOwedModel" "yearsNow" "I", Cond.fieldLink RX12 123 "CowsOwedModel" "hillsRead" "I"]
def wsX12_digest_r6 : List Cond := [Cond.methodLink RX12 227 yX12_cowsAll, Cond.instanceMethod yX12_cowsAll, Cond.selects RX12 yX12_cowsAll yX12_cowsAll, Cond.code yX12_cowsAll cX12_cowsAll 3 (some .int)]
def wsX12_digest : List Cond := .code yX12_digest cX12_digest 2 (some .long) :: ((wsX12_digest_r1 ++ (wsX12_digest_r2 ++ (wsX12_digest_r3 ++ (wsX12_digest_r4 ++ (wsX12_digest_r5 ++ wsX12_digest_r6))))) ++ wsX120)
def wsJ9_max_7cf53 : List Cond := .code yJ9_max_7cf53 cJ9_max_7cf53 2 (some .int) :: ([])
def wsJ9_min_7cf53 : List Cond := .code yJ9_min_7cf53 cJ9_min_7cf53 2 (some .int) :: ([])
def wsL_law_r1 : List Cond := [Cond.classLink RL 7 RX11, Cond.instantiable RX11 8, Cond.initialized RX11, Cond.classLink RL 10 RX12, Cond.instantiable RX12 38, Cond.initialized RX12, Cond.methodLink RL 9 yX11_init, Cond.instanceMethod yX11_init, Cond.code yX11_init cX11_init 2 none, Cond.methodLink RX11 1 objectInit, Cond.instanceMethod objectInit, Cond.code objectInit ⟨#[0xb1]⟩ 1 none, Cond.classLink RX11 7 RX1, Cond.instantiable RX1 0, Cond.initialized RX1, Cond.classLink RX11 10 RX7, Cond.instantiable RX7 0, Cond.initialized RX7, Cond.classLink RX11 13 RX6, Cond.instantiable RX6 0, Cond.initialized RX6, Cond.classLink RX11 16 RX0, Cond.instantiable RX0 0, Cond.initialized RX0]
def wsL_law_r2 : List Cond := [Cond.classLink RX11 19 RX3, Cond.instantiable RX3 0, Cond.initialized RX3, Cond.fieldLink RX11 22 "CowsOwed" "kinds" "[LCowsOwed$Clan;", Cond.fieldLink RX11 28 "CowsOwed" "clans" "[LCowsOwed$Clan;", Cond.classLink RX11 31 RX4, Cond.instantiable RX4 2, Cond.initialized RX4, Cond.fieldLink RX11 34 "CowsOwed" "page" "LCowsOwed$Page;", Cond.classLink RX11 38 RX8, Cond.instantiable RX8 5, Cond.initialized RX8, Cond.fieldLink RX11 43 "CowsOwed" "now" "LCowsOwed$Times;", Cond.fieldLink RX11 47 "CowsOwed" "kept" "LCowsOwed$Times;", Cond.classLink RX11 50 RX2, Cond.instantiable RX2 5, Cond.initialized RX2, Cond.fieldLink RX11 53 "CowsOwed" "trial" "LCowsOwed$Herds;", Cond.fieldLink RX11 57 "CowsOwed" "hasImage" "Z", Cond.fieldLink RX11 61 "CowsOwed" "timesRead" "I", Cond.instanceMethod yX1_init, Cond.code yX1_init cX1_init 1 none, Cond.methodLink RX1 3 objectInit, Cond.instanceMethod yX7_init]
def wsL_law_r3 : List Cond := [Cond.code yX7_init cX7_init 1 none, Cond.instanceMethod yX6_init, Cond.code yX6_init cX6_init 1 none, Cond.instanceMethod yX0_init, Cond.code yX0_init cX0_init 1 none, Cond.instanceMethod yX3_init, Cond.code yX3_init cX3_init 1 none, Cond.instanceMethod yX4_init, Cond.code yX4_init cX4_init 1 none, Cond.methodLink RX4 3 objectInit, Cond.arrayClass .int, Cond.fieldLink RX4 9 "CowsOwed$Page" "codes" "[I", Cond.fieldLink RX4 15 "CowsOwed$Page" "size" "I", Cond.methodLink RX11 40 yX8_init, Cond.instanceMethod yX8_init, Cond.code yX8_init cX8_init 2 none, Cond.methodLink RX8 1 objectInit, Cond.classLink RX8 7 RX10, Cond.instantiable RX10 5, Cond.initialized RX10, Cond.fieldLink RX8 10 "CowsOwed$Times" "weddings" "LCowsOwed$Weddings;", Cond.classLink RX8 16 RX5, Cond.instantiable RX5 6, Cond.initialized RX5]
def wsL_law_r4 : List Cond := [Cond.fieldLink RX8 19 "CowsOwed$Times" "plans" "LCowsOwed$Plans;", Cond.classLink RX8 23 RX9, Cond.instantiable RX9 3, Cond.initialized RX9, Cond.fieldLink RX8 26 "CowsOwed$Times" "told" "LCowsOwed$Told;", Cond.fieldLink RX8 30 "CowsOwed$Times" "years" "I", Cond.classLink RX8 34 RX2, Cond.fieldLink RX8 39 "CowsOwed$Times" "herds" "LCowsOwed$Herds;", Cond.instanceMethod yX10_init, Cond.code yX10_init cX10_init 1 none, Cond.methodLink RX10 3 objectInit, Cond.fieldLink RX10 9 "CowsOwed$Weddings" "his" "[I", Cond.fieldLink RX10 15 "CowsOwed$Weddings" "hers" "[I", Cond.fieldLink RX10 18 "CowsOwed$Weddings" "asked" "[I", Cond.fieldLink RX10 21 "CowsOwed$Weddings" "undone" "[I", Cond.fieldLink RX10 24 "CowsOwed$Weddings" "size" "I", Cond.instanceMethod yX5_init, Cond.code yX5_init cX5_init 1 none, Cond.methodLink RX5 3 objectInit, Cond.fieldLink RX5 9 "CowsOwed$Plans" "his" "[I", Cond.fieldLink RX5 15 "CowsOwed$Plans" "hers" "[I", Cond.fieldLink RX5 18 "CowsOwed$Plans" "tried" "[I", Cond.fieldLink RX5 21 "CowsOwed$Plans" "best" "[I", Cond.fieldLink RX5 24 "CowsOwed$Plans" "size" "I"]
def wsL_law_r5 : List Cond := [Cond.fieldLink RX5 28 "CowsOwed$Plans" "leastOwed" "I", Cond.instanceMethod yX9_init, Cond.code yX9_init cX9_init 1 none, Cond.methodLink RX9 3 objectInit, Cond.fieldLink RX9 9 "CowsOwed$Told" "rates" "[I", Cond.fieldLink RX9 15 "CowsOwed$Told" "asked" "[I", Cond.fieldLink RX9 18 "CowsOwed$Told" "size" "I", Cond.methodLink RX8 36 yX2_init, Cond.instanceMethod yX2_init, Cond.code yX2_init cX2_init 2 none, Cond.methodLink RX2 3 objectInit, Cond.fieldLink RX2 9 "CowsOwed$Herds" "cows" "[I", Cond.classLink RX2 15 "[[I", Cond.fieldLink RX2 17 "CowsOwed$Herds" "debts" "[[I", Cond.fieldLink RX2 20 "CowsOwed$Herds" "size" "I", Cond.fieldLink RX2 24 "CowsOwed$Herds" "price" "I", Cond.fieldLink RX2 27 "CowsOwed$Herds" "clans" "[LCowsOwed$Clan;", Cond.methodLink RX11 52 yX2_init, Cond.methodLink RL 12 yX12_init, Cond.instanceMethod yX12_init, Cond.code yX12_init cX12_init 1 none, Cond.methodLink RX12 1 objectInit, Cond.fieldLink RX12 7 "CowsOwedModel" "page" "[I", Cond.fieldLink RX12 13 "CowsOwedModel" "read" "[I"]
def wsL_law_r6 : List Cond := [Cond.fieldLink RX12 16 "CowsOwedModel" "kinds" "[I", Cond.fieldLink RX12 19 "CowsOwedModel" "herds" "[I", Cond.fieldLink RX12 22 "CowsOwedModel" "debts" "[I", Cond.fieldLink RX12 25 "CowsOwedModel" "rows" "[I", Cond.fieldLink RX12 28 "CowsOwedModel" "planned" "[I", Cond.fieldLink RX12 31 "CowsOwedModel" "savedHerds" "[I", Cond.fieldLink RX12 34 "CowsOwedModel" "savedDebts" "[I", Cond.fieldLink RX12 37 "CowsOwedModel" "row" "[I", Cond.fieldLink RX12 40 "CowsOwedModel" "bestRow" "[I", Cond.fieldLink RX12 43 "CowsOwedModel" "owedBefore" "[I", Cond.fieldLink RX12 46 "CowsOwedModel" "told" "[I", Cond.fieldLink RX12 49 "CowsOwedModel" "parts" "[I", Cond.fieldLink RX12 52 "CowsOwedModel" "keptHerds" "[I", Cond.fieldLink RX12 55 "CowsOwedModel" "keptDebts" "[I", Cond.fieldLink RX12 58 "CowsOwedModel" "keptRows" "[I", Cond.fieldLink RX12 61 "CowsOwedModel" "keptPlanned" "[I", Cond.fieldLink RX12 64 "CowsOwedModel" "keptTold" "[I", Cond.fieldLink RX12 67 "CowsOwedModel" "keptHills" "I", Cond.methodLink RL 13 yX11_letter, Cond.instanceMethod yX11_letter, Cond.selects RX11 yX11_letter yX11_letter, Cond.code yX11_letter cX11_letter 2 (some .int), Cond.fieldLink RX11 65 "CowsOwed$Page" "size" "I", Cond.methodLink RX11 68 yX4_put]
def wsL_law_r7 : List Cond := [Cond.instanceMethod yX4_put, Cond.selects RX4 yX4_put yX4_put, Cond.code yX4_put cX4_put 2 (some .int), Cond.methodLink RL 17 yX12_letter, Cond.instanceMethod yX12_letter, Cond.selects RX12 yX12_letter yX12_letter, Cond.code yX12_letter cX12_letter 2 (some .int), Cond.constantLong RX12 71 (126), Cond.fieldLink RX12 77 "CowsOwedModel" "pageMany" "I", Cond.methodLink RX12 73 yX12_in, Cond.static yX12_in, Cond.code yX12_in cX12_in 6 (some .boolean), Cond.methodLink RL 18 yX11_blank, Cond.instanceMethod yX11_blank, Cond.selects RX11 yX11_blank yX11_blank, Cond.code yX11_blank cX11_blank 2 (some .int), Cond.methodLink RL 22 yX12_blank, Cond.instanceMethod yX12_blank, Cond.selects RX12 yX12_blank yX12_blank, Cond.code yX12_blank cX12_blank 2 (some .int), Cond.methodLink RL 23 yX11_fault, Cond.instanceMethod yX11_fault, Cond.selects RX11 yX11_fault yX11_fault, Cond.code yX11_fault cX11_fault 1 (some .int)]
def wsL_law_r8 : List Cond := [Cond.methodLink RX11 72 yX4_firstFault, Cond.instanceMethod yX4_firstFault, Cond.selects RX4 yX4_firstFault yX4_firstFault, Cond.code yX4_firstFault cX4_firstFault 3 (some .int), Cond.methodLink RX4 19 yX4_behind, Cond.static yX4_behind, Cond.code yX4_behind cX4_behind 3 (some .int), Cond.methodLink RX4 23 yX4_kindOfLetter, Cond.static yX4_kindOfLetter, Cond.code yX4_kindOfLetter cX4_kindOfLetter 1 (some .int), Cond.methodLink RX4 33 yJ0_indexOf_0f7a4, Cond.instanceMethod yJ0_indexOf_0f7a4, Cond.selects RJ0 yJ0_indexOf_0f7a4 yJ0_indexOf_0f7a4, Cond.initialized RJ0, Cond.code yJ0_indexOf_0f7a4 cJ0_indexOf_0f7a4 2 (some .int), Cond.methodLink RJ0 633 yJ0_indexOf_7cf53, Cond.instanceMethod yJ0_indexOf_7cf53, Cond.selects RJ0 yJ0_indexOf_7cf53 yJ0_indexOf_7cf53, Cond.code yJ0_indexOf_7cf53 cJ0_indexOf_7cf53 3 (some .int), Cond.fieldLink RJ0 9 "java/lang/String" "value" "[B", Cond.methodLink RJ0 492 yJ0_isLatin1_aae02, Cond.instanceMethod yJ0_isLatin1_aae02, Cond.selects RJ0 yJ0_isLatin1_aae02 yJ0_isLatin1_aae02, Cond.code yJ0_isLatin1_aae02 cJ0_isLatin1_aae02 1 (some .boolean)]
def wsL_law_r9 : List Cond := [Cond.fieldLink RJ0 38 "java/lang/String" "COMPACT_STRINGS" "Z", Cond.fieldLink RJ0 15 "java/lang/String" "coder" "B", Cond.methodLink RJ0 505 yJ0_length_8abf5, Cond.instanceMethod yJ0_length_8abf5, Cond.selects RJ0 yJ0_length_8abf5 yJ0_length_8abf5, Cond.code yJ0_length_8abf5 cJ0_length_8abf5 1 (some .int), Cond.methodLink RJ0 335 yJ0_coder_7d493, Cond.instanceMethod yJ0_coder_7d493, Cond.selects RJ0 yJ0_coder_7d493 yJ0_coder_7d493, Cond.code yJ0_coder_7d493 cJ0_coder_7d493 1 (some .byte), Cond.methodLink RJ0 637 yJ1_indexOf_4cfef, Cond.static yJ1_indexOf_4cfef, Cond.initialized RJ1, Cond.code yJ1_indexOf_4cfef cJ1_indexOf_4cfef 4 (some .int), Cond.methodLink RJ1 92 Lib.Math.max.name, Cond.static Lib.Math.max.name, Cond.initialized "java/lang/Math", Cond.code Lib.Math.max.name Lib.Math.max.code 2 (some .int), Cond.methodLink RJ1 38 Lib.Math.min.name, Cond.static Lib.Math.min.name, Cond.code Lib.Math.min.name Lib.Math.min.code 2 (some .int), Cond.methodLink RJ1 88 yJ1_canEncode_9a6ad, Cond.static yJ1_canEncode_9a6ad, Cond.code yJ1_canEncode_9a6ad cJ1_canEncode_9a6ad 1 (some .boolean)]
def wsL_law_r10 : List Cond := [Cond.methodLink RJ1 95 yJ1_indexOfChar_4cfef, Cond.static yJ1_indexOfChar_4cfef, Cond.code yJ1_indexOfChar_4cfef cJ1_indexOfChar_4cfef 6 (some .int), Cond.methodLink RJ0 640 yJ2_indexOf_4cfef, Cond.static yJ2_indexOf_4cfef, Cond.initialized RJ2, Cond.code yJ2_indexOf_4cfef cJ2_indexOf_4cfef 4 (some .int), Cond.methodLink RJ2 224 Lib.Math.max.name, Cond.methodLink RJ2 183 Lib.Math.min.name, Cond.constant RJ2 227 (65536), Cond.methodLink RJ2 228 yJ2_indexOfChar_4cfef, Cond.static yJ2_indexOfChar_4cfef, Cond.code yJ2_indexOfChar_4cfef cJ2_indexOfChar_4cfef 4 (some .int), Cond.methodLink RJ2 96 yJ2_checkBoundsBeginEnd_d044e, Cond.static yJ2_checkBoundsBeginEnd_d044e, Cond.code yJ2_checkBoundsBeginEnd_d044e cJ2_checkBoundsBeginEnd_d044e 3 none, Cond.methodLink RJ2 48 yJ2_length_9d52b, Cond.static yJ2_length_9d52b, Cond.code yJ2_length_9d52b cJ2_length_9d52b 1 (some .int), Cond.methodLink RJ2 241 yJ0_checkBoundsBeginEnd_23922, Cond.static yJ0_checkBoundsBeginEnd_23922, Cond.code yJ0_checkBoundsBeginEnd_23922 cJ0_checkBoundsBeginEnd_23922 3 none, Cond.fieldLink RJ0 1053 "jdk/internal/util/Preconditions" "SIOOBE_FORMATTER" "Ljava/util/function/BiFunction;", Cond.methodLink RJ0 1062 yJ3_checkFromToIndex_8c36e]
def wsL_law_r11 : List Cond := [Cond.static yJ3_checkFromToIndex_8c36e, Cond.initialized RJ3, Cond.code yJ3_checkFromToIndex_8c36e cJ3_checkFromToIndex_8c36e 4 (some .int), Cond.methodLink RJ2 244 yJ2_indexOfCharUnsafe_4cfef, Cond.static yJ2_indexOfCharUnsafe_4cfef, Cond.code yJ2_indexOfCharUnsafe_4cfef cJ2_indexOfCharUnsafe_4cfef 5 (some .int), Cond.methodLink RJ2 71 yJ2_getChar_3b067, Cond.static yJ2_getChar_3b067, Cond.code yJ2_getChar_3b067 cJ2_getChar_3b067 2 (some .char), Cond.fieldLink RJ2 44 "java/lang/StringUTF16" "$assertionsDisabled" "Z", Cond.fieldLink RJ2 59 "java/lang/StringUTF16" "HI_BYTE_SHIFT" "I", Cond.fieldLink RJ2 63 "java/lang/StringUTF16" "LO_BYTE_SHIFT" "I", Cond.methodLink RJ2 232 yJ2_indexOfSupplementary_4cfef, Cond.static yJ2_indexOfSupplementary_4cfef, Cond.code yJ2_indexOfSupplementary_4cfef cJ2_indexOfSupplementary_4cfef 7 (some .int), Cond.methodLink RJ2 164 yJ11_isValidCodePoint_9a6ad, Cond.static yJ11_isValidCodePoint_9a6ad, Cond.initialized RJ11, Cond.code yJ11_isValidCodePoint_9a6ad cJ11_isValidCodePoint_9a6ad 2 (some .boolean), Cond.methodLink RJ2 157 yJ11_highSurrogate_5068e, Cond.static yJ11_highSurrogate_5068e, Cond.code yJ11_highSurrogate_5068e cJ11_highSurrogate_5068e 1 (some .char), Cond.constant RJ11 110 (55232), Cond.methodLink RJ2 161 yJ11_lowSurrogate_5068e]
def wsL_law_r12 : List Cond := [Cond.static yJ11_lowSurrogate_5068e, Cond.code yJ11_lowSurrogate_5068e cJ11_lowSurrogate_5068e 1 (some .char), Cond.constant RJ11 76 (56320), Cond.methodLink RX4 27 yX4_behindMark, Cond.static yX4_behindMark, Cond.code yX4_behindMark cX4_behindMark 2 (some .int), Cond.methodLink RL 26 yX12_fault, Cond.instanceMethod yX12_fault, Cond.selects RX12 yX12_fault yX12_fault, Cond.code yX12_fault cX12_fault 1 (some .int), Cond.methodLink RX12 101 yX12_faultOf, Cond.instanceMethod yX12_faultOf, Cond.selects RX12 yX12_faultOf yX12_faultOf, Cond.code yX12_faultOf cX12_faultOf 2 (some .int), Cond.fieldLink RX12 83 "CowsOwedModel" "readMany" "I", Cond.fieldLink RX12 80 "CowsOwedModel" "state" "I", Cond.methodLink RX12 97 yX12_go, Cond.instanceMethod yX12_go, Cond.selects RX12 yX12_go yX12_go, Cond.code yX12_go cX12_go 4 (some .boolean), Cond.constantLong RX12 90 (9), Cond.fieldLink RX12 92 "CowsOwedModel" "readRate" "I", Cond.constantLong RX12 95 (5), Cond.methodLink RX12 86 yX12_kindBy]
def wsL_law_r13 : List Cond := [Cond.static yX12_kindBy, Cond.code yX12_kindBy cX12_kindBy 1 (some .int), Cond.methodLink RL 27 yX11_hills, Cond.instanceMethod yX11_hills, Cond.selects RX11 yX11_hills yX11_hills, Cond.code yX11_hills cX11_hills 3 (some .int), Cond.fieldLink RX11 97 "CowsOwed$Times" "herds" "LCowsOwed$Herds;", Cond.fieldLink RX11 100 "CowsOwed$Herds" "cows" "[I", Cond.methodLink RX11 76 yX4_isHills, Cond.instanceMethod yX4_isHills, Cond.selects RX4 yX4_isHills yX4_isHills, Cond.code yX4_isHills cX4_isHills 1 (some .boolean), Cond.methodLink RX4 38 yX4_firstFault, Cond.methodLink RX11 80 yX4_clanCount, Cond.instanceMethod yX4_clanCount, Cond.selects RX4 yX4_clanCount yX4_clanCount, Cond.code yX4_clanCount cX4_clanCount 1 (some .int), Cond.methodLink RX11 83 yX4_rateDigit, Cond.instanceMethod yX4_rateDigit, Cond.selects RX4 yX4_rateDigit yX4_rateDigit, Cond.code yX4_rateDigit cX4_rateDigit 1 (some .int), Cond.methodLink RX11 86 yX8_begin, Cond.instanceMethod yX8_begin, Cond.selects RX8 yX8_begin yX8_begin]
def wsL_law_r14 : List Cond := [Cond.code yX8_begin cX8_begin 3 none, Cond.fieldLink RX8 47 "CowsOwed$Weddings" "size" "I", Cond.fieldLink RX8 50 "CowsOwed$Plans" "size" "I", Cond.fieldLink RX8 51 "CowsOwed$Told" "size" "I", Cond.methodLink RX8 43 yX2_begin, Cond.instanceMethod yX2_begin, Cond.selects RX2 yX2_begin yX2_begin, Cond.code yX2_begin cX2_begin 5 none, Cond.methodLink RX11 90 yX4_kindOf, Cond.instanceMethod yX4_kindOf, Cond.selects RX4 yX4_kindOf yX4_kindOf, Cond.code yX4_kindOf cX4_kindOf 2 (some .int), Cond.methodLink RX11 93 yX11_kindAt, Cond.instanceMethod yX11_kindAt, Cond.selects RX11 yX11_kindAt yX11_kindAt, Cond.code yX11_kindAt cX11_kindAt 2 (some (.object "CowsOwed$Clan")), Cond.methodLink RX11 104 yX4_herdOf, Cond.instanceMethod yX4_herdOf, Cond.selects RX4 yX4_herdOf yX4_herdOf, Cond.code yX4_herdOf cX4_herdOf 2 (some .int), Cond.methodLink RL 30 yX12_hills, Cond.instanceMethod yX12_hills, Cond.selects RX12 yX12_hills yX12_hills, Cond.code yX12_hills cX12_hills 2 (some .int)]
def wsL_law_r15 : List Cond := [Cond.fieldLink RX12 105 "CowsOwedModel" "clans" "I", Cond.fieldLink RX12 108 "CowsOwedModel" "rateNow" "I", Cond.fieldLink RX12 111 "CowsOwedModel" "yearsNow" "I", Cond.fieldLink RX12 114 "CowsOwedModel" "weddings" "I", Cond.fieldLink RX12 117 "CowsOwedModel" "plans" "I", Cond.fieldLink RX12 120 "CowsOwedModel" "toldMany" "I", Cond.fieldLink RX12 123 "CowsOwedModel" "hillsRead" "I", Cond.methodLink RL 31 yX11_clan, Cond.instanceMethod yX11_clan, Cond.selects RX11 yX11_clan yX11_clan, Cond.code yX11_clan cX11_clan 4 (some .int), Cond.fieldLink RX11 111 "CowsOwed$Herds" "debts" "[[I", Cond.methodLink RX11 107 yX2_knows, Cond.instanceMethod yX2_knows, Cond.selects RX2 yX2_knows yX2_knows, Cond.code yX2_knows cX2_knows 2 (some .boolean), Cond.methodLink RX11 115 ⟨"CowsOwed$Clan", "number", "()I"⟩, Cond.sameMethod "CowsOwed$Clan" "CowsOwed$Clan" "number" "()I", Cond.instanceMethod ⟨"CowsOwed$Clan", "number", "()I"⟩, Cond.selects RX0 ⟨"CowsOwed$Clan", "number", "()I"⟩ yX0_number, Cond.instanceMethod yX0_number, Cond.code yX0_number cX0_number 1 (some .int), Cond.code yX1_number cX1_number 1 (some .int), Cond.methodLink RX11 115 yX1_number]
def wsL_law_r16 : List Cond := [Cond.instanceMethod yX1_number, Cond.selects RX1 yX1_number yX1_number, Cond.selects RX3 ⟨"CowsOwed$Clan", "number", "()I"⟩ yX3_number, Cond.instanceMethod yX3_number, Cond.code yX3_number cX3_number 1 (some .int), Cond.selects RX6 ⟨"CowsOwed$Clan", "number", "()I"⟩ yX6_number, Cond.instanceMethod yX6_number, Cond.code yX6_number cX6_number 1 (some .int), Cond.selects RX7 ⟨"CowsOwed$Clan", "number", "()I"⟩ yX7_number, Cond.instanceMethod yX7_number, Cond.code yX7_number cX7_number 1 (some .int), Cond.methodLink RX11 118 yX2_askedBy, Cond.instanceMethod yX2_askedBy, Cond.selects RX2 yX2_askedBy yX2_askedBy, Cond.code yX2_askedBy cX2_askedBy 2 (some .int), Cond.methodLink RX2 35 ⟨"CowsOwed$Clan", "asks", "(I)I"⟩, Cond.sameMethod "CowsOwed$Clan" "CowsOwed$Clan" "asks" "(I)I", Cond.selects RX0 ⟨"CowsOwed$Clan", "asks", "(I)I"⟩ yX1_asks, Cond.instanceMethod yX1_asks, Cond.code yX1_asks cX1_asks 2 (some .int), Cond.methodLink RX2 35 yX1_asks, Cond.selects RX1 yX1_asks yX1_asks, Cond.instanceMethod ⟨"CowsOwed$Clan", "asks", "(I)I"⟩, Cond.selects RX3 ⟨"CowsOwed$Clan", "asks", "(I)I"⟩ yX3_asks]
def wsL_law_r17 : List Cond := [Cond.instanceMethod yX3_asks, Cond.code yX3_asks cX3_asks 2 (some .int), Cond.methodLink RX3 9 yX7_asks, Cond.sameMethod "CowsOwed$Proud" "CowsOwed$Proud" "asks" "(I)I", Cond.superclass RX3 RX7, Cond.instanceMethod yX7_asks, Cond.code yX7_asks cX7_asks 2 (some .int), Cond.selects RX6 ⟨"CowsOwed$Clan", "asks", "(I)I"⟩ yX6_asks, Cond.instanceMethod yX6_asks, Cond.code yX6_asks cX6_asks 2 (some .int), Cond.methodLink RX6 9 Lib.Math.max.name, Cond.selects RX7 ⟨"CowsOwed$Clan", "asks", "(I)I"⟩ yX7_asks, Cond.methodLink RX11 121 yX2_sparedBy, Cond.instanceMethod yX2_sparedBy, Cond.selects RX2 yX2_sparedBy yX2_sparedBy, Cond.code yX2_sparedBy cX2_sparedBy 2 (some .int), Cond.methodLink RX2 41 ⟨"CowsOwed$Clan", "spares", "(I)I"⟩, Cond.sameMethod "CowsOwed$Clan" "CowsOwed$Clan" "spares" "(I)I", Cond.instanceMethod ⟨"CowsOwed$Clan", "spares", "(I)I"⟩, Cond.selects RX0 ⟨"CowsOwed$Clan", "spares", "(I)I"⟩ yX0_spares, Cond.instanceMethod yX0_spares, Cond.code yX0_spares cX0_spares 2 (some .int), Cond.code yX1_spares cX1_spares 2 (some .int), Cond.methodLink RX2 41 yX1_spares]
def wsL_law_r18 : List Cond := [Cond.instanceMethod yX1_spares, Cond.selects RX1 yX1_spares yX1_spares, Cond.selects RX3 ⟨"CowsOwed$Clan", "spares", "(I)I"⟩ yX1_spares, Cond.selects RX6 ⟨"CowsOwed$Clan", "spares", "(I)I"⟩ yX1_spares, Cond.selects RX7 ⟨"CowsOwed$Clan", "spares", "(I)I"⟩ yX1_spares, Cond.methodLink RX11 124 yX2_owedBy, Cond.instanceMethod yX2_owedBy, Cond.selects RX2 yX2_owedBy yX2_owedBy, Cond.code yX2_owedBy cX2_owedBy 4 (some .int), Cond.methodLink RX11 127 yX2_owedTo, Cond.instanceMethod yX2_owedTo, Cond.selects RX2 yX2_owedTo yX2_owedTo, Cond.code yX2_owedTo cX2_owedTo 4 (some .int), Cond.methodLink RL 35 yX12_clan, Cond.instanceMethod yX12_clan, Cond.selects RX12 yX12_clan yX12_clan, Cond.code yX12_clan cX12_clan 3 (some .int), Cond.methodLink RX12 126 yX12_isClan, Cond.instanceMethod yX12_isClan, Cond.selects RX12 yX12_isClan yX12_isClan, Cond.code yX12_isClan cX12_isClan 2 (some .boolean), Cond.methodLink RX12 150 yX12_clanOf, Cond.instanceMethod yX12_clanOf, Cond.selects RX12 yX12_clanOf yX12_clanOf]
def wsL_law_r19 : List Cond := [Cond.code yX12_clanOf cX12_clanOf 3 (some .int), Cond.constantLong RX12 136 (10), Cond.constantLong RX12 138 (13), Cond.methodLink RX12 140 yX12_asksBy, Cond.static yX12_asksBy, Cond.code yX12_asksBy cX12_asksBy 2 (some .int), Cond.methodLink RX12 129 yX12_spareOf, Cond.instanceMethod yX12_spareOf, Cond.selects RX12 yX12_spareOf yX12_spareOf, Cond.code yX12_spareOf cX12_spareOf 3 (some .int), Cond.methodLink RX12 144 yX12_owesOf, Cond.instanceMethod yX12_owesOf, Cond.selects RX12 yX12_owesOf yX12_owesOf, Cond.code yX12_owesOf cX12_owesOf 2 (some .int), Cond.methodLink RX12 147 yX12_owedTo, Cond.instanceMethod yX12_owedTo, Cond.selects RX12 yX12_owedTo yX12_owedTo, Cond.code yX12_owedTo cX12_owedTo 2 (some .int), Cond.methodLink RL 36 yX11_as, Cond.instanceMethod yX11_as, Cond.selects RX11 yX11_as yX11_as, Cond.code yX11_as cX11_as 3 (some .int), Cond.methodLink RX11 130 yX11_isOfKind, Cond.static yX11_isOfKind]
def wsL_law_r20 : List Cond := [Cond.code yX11_isOfKind cX11_isOfKind 2 (some .boolean), Cond.classLink RX11 10 "CowsOwed$Proud", Cond.classLink RX11 13 "CowsOwed$Poor", Cond.classLink RX11 16 "CowsOwed$Careful", Cond.classLink RX11 19 "CowsOwed$Kings", Cond.methodLink RL 39 yX12_as, Cond.instanceMethod yX12_as, Cond.selects RX12 yX12_as yX12_as, Cond.code yX12_as cX12_as 4 (some .int), Cond.constantLong RX12 153 (4), Cond.methodLink RL 40 yX11_rate, Cond.instanceMethod yX11_rate, Cond.selects RX11 yX11_rate yX11_rate, Cond.code yX11_rate cX11_rate 3 (some .int), Cond.fieldLink RX11 140 "CowsOwed$Herds" "price" "I", Cond.methodLink RX11 134 yX11_isRate, Cond.static yX11_isRate, Cond.code yX11_isRate cX11_isRate 1 (some .boolean), Cond.methodLink RX11 137 yX11_hasHills, Cond.instanceMethod yX11_hasHills, Cond.selects RX11 yX11_hasHills yX11_hasHills, Cond.code yX11_hasHills cX11_hasHills 1 (some .boolean), Cond.fieldLink RX11 241 "CowsOwed$Herds" "size" "I", Cond.methodLink RL 43 yX12_rate]
def wsL_law_r21 : List Cond := [Cond.instanceMethod yX12_rate, Cond.selects RX12 yX12_rate yX12_rate, Cond.code yX12_rate cX12_rate 3 (some .int), Cond.methodLink RX12 155 yX12_lacks, Cond.instanceMethod yX12_lacks, Cond.selects RX12 yX12_lacks yX12_lacks, Cond.code yX12_lacks cX12_lacks 1 (some .boolean), Cond.methodLink RL 44 yX11_wed, Cond.instanceMethod yX11_wed, Cond.selects RX11 yX11_wed yX11_wed, Cond.code yX11_wed cX11_wed 4 (some .int), Cond.fieldLink RX11 147 "CowsOwed$Times" "weddings" "LCowsOwed$Weddings;", Cond.fieldLink RX11 151 "CowsOwed$Weddings" "size" "I", Cond.methodLink RX11 143 yX2_knowsCouple, Cond.instanceMethod yX2_knowsCouple, Cond.selects RX2 yX2_knowsCouple yX2_knowsCouple, Cond.code yX2_knowsCouple cX2_knowsCouple 3 (some .boolean), Cond.methodLink RX2 31 yX2_knows, Cond.methodLink RX11 154 yX2_marry, Cond.instanceMethod yX2_marry, Cond.selects RX2 yX2_marry yX2_marry, Cond.code yX2_marry cX2_marry 4 (some .int), Cond.methodLink RX2 44 yX2_pay, Cond.instanceMethod yX2_pay]
def wsL_law_r22 : List Cond := [Cond.selects RX2 yX2_pay yX2_pay, Cond.code yX2_pay cX2_pay 5 (some .int), Cond.methodLink RX2 48 Lib.Math.min.name, Cond.methodLink RX11 158 yX10_note, Cond.instanceMethod yX10_note, Cond.selects RX10 yX10_note yX10_note, Cond.code yX10_note cX10_note 4 (some .int), Cond.methodLink RL 47 yX12_wed, Cond.instanceMethod yX12_wed, Cond.selects RX12 yX12_wed yX12_wed, Cond.code yX12_wed cX12_wed 4 (some .int), Cond.methodLink RX12 162 yX12_areTwo, Cond.instanceMethod yX12_areTwo, Cond.selects RX12 yX12_areTwo yX12_areTwo, Cond.code yX12_areTwo cX12_areTwo 3 (some .boolean), Cond.methodLink RX12 166 yX12_marry, Cond.instanceMethod yX12_marry, Cond.selects RX12 yX12_marry yX12_marry, Cond.code yX12_marry cX12_marry 4 (some .int), Cond.methodLink RX12 159 yX12_pays, Cond.instanceMethod yX12_pays, Cond.selects RX12 yX12_pays yX12_pays, Cond.code yX12_pays cX12_pays 5 (some .int), Cond.methodLink RX12 132 yX12_paysNow]
def wsL_law_r23 : List Cond := [Cond.instanceMethod yX12_paysNow, Cond.selects RX12 yX12_paysNow yX12_paysNow, Cond.code yX12_paysNow cX12_paysNow 5 (some .int), Cond.methodLink RL 48 yX11_wedding, Cond.instanceMethod yX11_wedding, Cond.selects RX11 yX11_wedding yX11_wedding, Cond.code yX11_wedding cX11_wedding 4 (some .int), Cond.fieldLink RX11 163 "CowsOwed$Weddings" "his" "[I", Cond.fieldLink RX11 166 "CowsOwed$Weddings" "hers" "[I", Cond.fieldLink RX11 169 "CowsOwed$Weddings" "asked" "[I", Cond.fieldLink RX11 172 "CowsOwed$Weddings" "undone" "[I", Cond.methodLink RX11 162 yX10_knows, Cond.instanceMethod yX10_knows, Cond.selects RX10 yX10_knows yX10_knows, Cond.code yX10_knows cX10_knows 2 (some .boolean), Cond.methodLink RL 51 yX12_wedding, Cond.instanceMethod yX12_wedding, Cond.selects RX12 yX12_wedding yX12_wedding, Cond.code yX12_wedding cX12_wedding 3 (some .int), Cond.constantLong RX12 169 (3), Cond.methodLink RL 52 yX11_divorce, Cond.instanceMethod yX11_divorce, Cond.selects RX11 yX11_divorce yX11_divorce, Cond.code yX11_divorce cX11_divorce 3 (some .int)]
def wsL_law_r24 : List Cond := [Cond.methodLink RX11 175 yX2_pay, Cond.methodLink RL 55 yX12_divorce, Cond.instanceMethod yX12_divorce, Cond.selects RX12 yX12_divorce yX12_divorce, Cond.code yX12_divorce cX12_divorce 2 (some .int), Cond.methodLink RL 56 yX11_year, Cond.instanceMethod yX11_year, Cond.selects RX11 yX11_year yX11_year, Cond.code yX11_year cX11_year 1 (some .int), Cond.fieldLink RX11 181 "CowsOwed$Times" "years" "I", Cond.methodLink RX11 178 yX2_passYear, Cond.instanceMethod yX2_passYear, Cond.selects RX2 yX2_passYear yX2_passYear, Cond.code yX2_passYear cX2_passYear 3 none, Cond.methodLink RX2 54 yX2_grown, Cond.static yX2_grown, Cond.code yX2_grown cX2_grown 1 (some .int), Cond.methodLink RX2 61 Lib.Math.max.name, Cond.methodLink RX2 57 yX2_payDebt, Cond.instanceMethod yX2_payDebt, Cond.selects RX2 yX2_payDebt yX2_payDebt, Cond.code yX2_payDebt cX2_payDebt 4 none, Cond.methodLink RX11 184 yX2_allOwed, Cond.instanceMethod yX2_allOwed]
def wsL_law_r25 : List Cond := [Cond.selects RX2 yX2_allOwed yX2_allOwed, Cond.code yX2_allOwed cX2_allOwed 3 (some .int), Cond.methodLink RX2 64 yX2_owedBy, Cond.methodLink RL 59 yX12_year, Cond.instanceMethod yX12_year, Cond.selects RX12 yX12_year yX12_year, Cond.code yX12_year cX12_year 1 (some .int), Cond.methodLink RX12 171 yX12_passYear, Cond.instanceMethod yX12_passYear, Cond.selects RX12 yX12_passYear yX12_passYear, Cond.code yX12_passYear cX12_passYear 4 none, Cond.methodLink RX12 174 yX12_owedAll, Cond.instanceMethod yX12_owedAll, Cond.selects RX12 yX12_owedAll yX12_owedAll, Cond.code yX12_owedAll cX12_owedAll 3 (some .int), Cond.methodLink RL 60 yX11_settled, Cond.instanceMethod yX11_settled, Cond.selects RX11 yX11_settled yX11_settled, Cond.code yX11_settled cX11_settled 1 (some .int), Cond.methodLink RX11 187 yX2_leastLed, Cond.instanceMethod yX2_leastLed, Cond.selects RX2 yX2_leastLed yX2_leastLed, Cond.code yX2_leastLed cX2_leastLed 3 (some .int), Cond.methodLink RX2 67 yX2_owedTo]
def wsL_law_r26 : List Cond := [Cond.methodLink RL 63 yX12_settled, Cond.instanceMethod yX12_settled, Cond.selects RX12 yX12_settled yX12_settled, Cond.code yX12_settled cX12_settled 1 (some .int), Cond.methodLink RX12 177 yX12_settledOf, Cond.instanceMethod yX12_settledOf, Cond.selects RX12 yX12_settledOf yX12_settledOf, Cond.code yX12_settledOf cX12_settledOf 4 (some .int), Cond.methodLink RL 64 yX11_plan, Cond.instanceMethod yX11_plan, Cond.selects RX11 yX11_plan yX11_plan, Cond.code yX11_plan cX11_plan 3 (some .int), Cond.fieldLink RX11 190 "CowsOwed$Times" "plans" "LCowsOwed$Plans;", Cond.fieldLink RX11 194 "CowsOwed$Plans" "size" "I", Cond.methodLink RX11 197 yX5_note, Cond.instanceMethod yX5_note, Cond.selects RX5 yX5_note yX5_note, Cond.code yX5_note cX5_note 3 (some .int), Cond.methodLink RL 67 yX12_plan, Cond.instanceMethod yX12_plan, Cond.selects RX12 yX12_plan yX12_plan, Cond.code yX12_plan cX12_plan 3 (some .int), Cond.methodLink RL 68 yX11_dream, Cond.instanceMethod yX11_dream]
def wsL_law_r27 : List Cond := [Cond.selects RX11 yX11_dream yX11_dream, Cond.code yX11_dream cX11_dream 2 (some .int), Cond.methodLink RL 71 yX12_dream, Cond.instanceMethod yX12_dream, Cond.selects RX12 yX12_dream yX12_dream, Cond.code yX12_dream cX12_dream 2 (some .int), Cond.methodLink RL 72 yX11_order, Cond.instanceMethod yX11_order, Cond.selects RX11 yX11_order yX11_order, Cond.code yX11_order cX11_order 3 (some .int), Cond.fieldLink RX11 206 "CowsOwed$Plans" "leastOwed" "I", Cond.methodLink RX11 199 yX5_findOrder, Cond.instanceMethod yX5_findOrder, Cond.selects RX5 yX5_findOrder yX5_findOrder, Cond.code yX5_findOrder cX5_findOrder 6 none, Cond.methodLink RX5 47 arraycopyName, Cond.native arraycopyName, Cond.static arraycopyName, Cond.initialized "java/lang/System", Cond.methodLink RX5 31 yX5_startOrders, Cond.instanceMethod yX5_startOrders, Cond.selects RX5 yX5_startOrders yX5_startOrders, Cond.code yX5_startOrders cX5_startOrders 2 none, Cond.methodLink RX5 34 yX2_copyFrom]
def wsL_law_r28 : List Cond := [Cond.instanceMethod yX2_copyFrom, Cond.selects RX2 yX2_copyFrom yX2_copyFrom, Cond.code yX2_copyFrom cX2_copyFrom 4 none, Cond.methodLink RX5 40 yX5_marryInOrder, Cond.instanceMethod yX5_marryInOrder, Cond.selects RX5 yX5_marryInOrder yX5_marryInOrder, Cond.code yX5_marryInOrder cX5_marryInOrder 4 none, Cond.methodLink RX5 57 yX2_marry, Cond.methodLink RX5 43 yX2_allOwed, Cond.methodLink RX5 53 yX5_nextOrder, Cond.instanceMethod yX5_nextOrder, Cond.selects RX5 yX5_nextOrder yX5_nextOrder, Cond.code yX5_nextOrder cX5_nextOrder 5 (some .boolean), Cond.methodLink RX5 61 yX5_swapTried, Cond.instanceMethod yX5_swapTried, Cond.selects RX5 yX5_swapTried yX5_swapTried, Cond.code yX5_swapTried cX5_swapTried 4 none, Cond.methodLink RX11 203 yX5_bestAt, Cond.instanceMethod yX5_bestAt, Cond.selects RX5 yX5_bestAt yX5_bestAt, Cond.code yX5_bestAt cX5_bestAt 2 (some .int), Cond.methodLink RL 75 yX12_order, Cond.instanceMethod yX12_order, Cond.selects RX12 yX12_order yX12_order]
def wsL_law_r29 : List Cond := [Cond.code yX12_order cX12_order 2 (some .int), Cond.methodLink RX12 196 yX12_orderOf, Cond.instanceMethod yX12_orderOf, Cond.selects RX12 yX12_orderOf yX12_orderOf, Cond.code yX12_orderOf cX12_orderOf 3 (some .int), Cond.methodLink RX12 193 yX12_layOrder, Cond.instanceMethod yX12_layOrder, Cond.selects RX12 yX12_layOrder yX12_layOrder, Cond.code yX12_layOrder cX12_layOrder 6 (some .int), Cond.methodLink RX12 184 yX12_layAside, Cond.instanceMethod yX12_layAside, Cond.selects RX12 yX12_layAside yX12_layAside, Cond.code yX12_layAside cX12_layAside 1 none, Cond.methodLink RX12 180 yX12_copy, Cond.static yX12_copy, Cond.code yX12_copy cX12_copy 3 none, Cond.methodLink RX12 187 yX12_isOrder, Cond.instanceMethod yX12_isOrder, Cond.selects RX12 yX12_isOrder yX12_isOrder, Cond.code yX12_isOrder cX12_isOrder 5 (some .boolean), Cond.methodLink RX12 190 yX12_layBack, Cond.instanceMethod yX12_layBack, Cond.selects RX12 yX12_layBack yX12_layBack, Cond.code yX12_layBack cX12_layBack 1 none]
def wsL_law_r30 : List Cond := [Cond.methodLink RL 76 yX11_high, Cond.instanceMethod yX11_high, Cond.selects RX11 yX11_high yX11_high, Cond.code yX11_high cX11_high 1 (some .int), Cond.methodLink RX11 209 yX5_highestRate, Cond.instanceMethod yX5_highestRate, Cond.selects RX5 yX5_highestRate yX5_highestRate, Cond.code yX5_highestRate cX5_highestRate 4 (some .int), Cond.fieldLink RX5 65 "CowsOwed$Herds" "price" "I", Cond.methodLink RX5 68 yX5_owesMore, Cond.static yX5_owesMore, Cond.code yX5_owesMore cX5_owesMore 3 (some .boolean), Cond.fieldLink RX5 72 "CowsOwed$Herds" "size" "I", Cond.methodLink RX5 73 yX2_owedBy, Cond.methodLink RL 79 yX12_high, Cond.instanceMethod yX12_high, Cond.selects RX12 yX12_high yX12_high, Cond.code yX12_high cX12_high 1 (some .int), Cond.methodLink RX12 199 yX12_highOf, Cond.instanceMethod yX12_highOf, Cond.selects RX12 yX12_highOf yX12_highOf, Cond.code yX12_highOf cX12_highOf 5 (some .int), Cond.methodLink RL 80 yX11_tell, Cond.instanceMethod yX11_tell]
def wsL_law_r31 : List Cond := [Cond.selects RX11 yX11_tell yX11_tell, Cond.code yX11_tell cX11_tell 3 (some .int), Cond.fieldLink RX11 213 "CowsOwed$Times" "told" "LCowsOwed$Told;", Cond.fieldLink RX11 217 "CowsOwed$Told" "size" "I", Cond.methodLink RX11 220 yX9_note, Cond.instanceMethod yX9_note, Cond.selects RX9 yX9_note yX9_note, Cond.code yX9_note cX9_note 3 (some .int), Cond.methodLink RL 83 yX12_tell, Cond.instanceMethod yX12_tell, Cond.selects RX12 yX12_tell yX12_tell, Cond.code yX12_tell cX12_tell 3 (some .int), Cond.constantLong RX12 202 (20), Cond.methodLink RL 84 yX11_forget, Cond.instanceMethod yX11_forget, Cond.selects RX11 yX11_forget yX11_forget, Cond.code yX11_forget cX11_forget 2 (some .int), Cond.methodLink RL 87 yX12_forget, Cond.instanceMethod yX12_forget, Cond.selects RX12 yX12_forget yX12_forget, Cond.code yX12_forget cX12_forget 2 (some .int), Cond.methodLink RL 88 yX11_which, Cond.instanceMethod yX11_which, Cond.selects RX11 yX11_which yX11_which]
def wsL_law_r32 : List Cond := [Cond.code yX11_which cX11_which 1 (some .int), Cond.methodLink RX11 221 yX9_kindsLeft, Cond.instanceMethod yX9_kindsLeft, Cond.selects RX9 yX9_kindsLeft yX9_kindsLeft, Cond.code yX9_kindsLeft cX9_kindsLeft 4 (some .int), Cond.methodLink RX9 22 yX9_canBe, Cond.instanceMethod yX9_canBe, Cond.selects RX9 yX9_canBe yX9_canBe, Cond.code yX9_canBe cX9_canBe 3 (some .boolean), Cond.methodLink RX9 26 ⟨"CowsOwed$Clan", "asks", "(I)I"⟩, Cond.methodLink RX9 26 yX1_asks, Cond.methodLink RL 91 yX12_which, Cond.instanceMethod yX12_which, Cond.selects RX12 yX12_which yX12_which, Cond.code yX12_which cX12_which 1 (some .int), Cond.methodLink RX12 204 yX12_whichOf, Cond.instanceMethod yX12_whichOf, Cond.selects RX12 yX12_whichOf yX12_whichOf, Cond.code yX12_whichOf cX12_whichOf 5 (some .int), Cond.methodLink RL 92 yX11_ask, Cond.instanceMethod yX11_ask, Cond.selects RX11 yX11_ask yX11_ask, Cond.code yX11_ask cX11_ask 1 (some .int), Cond.methodLink RX11 225 yX9_nextRate]
def wsL_law_r33 : List Cond := [Cond.instanceMethod yX9_nextRate, Cond.selects RX9 yX9_nextRate yX9_nextRate, Cond.code yX9_nextRate cX9_nextRate 7 (some .int), Cond.methodLink RX9 32 yX9_kindsLeft, Cond.methodLink RX9 36 yX9_mostLeft, Cond.static yX9_mostLeft, Cond.code yX9_mostLeft cX9_mostLeft 5 (some .int), Cond.methodLink RX9 48 Lib.Math.max.name, Cond.methodLink RX9 40 yX9_has, Cond.static yX9_has, Cond.code yX9_has cX9_has 2 (some .boolean), Cond.methodLink RX9 44 yX9_alike, Cond.static yX9_alike, Cond.code yX9_alike cX9_alike 6 (some .int), Cond.methodLink RL 95 yX12_ask, Cond.instanceMethod yX12_ask, Cond.selects RX12 yX12_ask yX12_ask, Cond.code yX12_ask cX12_ask 1 (some .int), Cond.methodLink RX12 207 yX12_askOf, Cond.instanceMethod yX12_askOf, Cond.selects RX12 yX12_askOf yX12_askOf, Cond.code yX12_askOf cX12_askOf 8 (some .int), Cond.methodLink RL 96 yX11_ages, Cond.instanceMethod yX11_ages]
def wsL_law_r34 : List Cond := [Cond.selects RX11 yX11_ages yX11_ages, Cond.code yX11_ages cX11_ages 5 (some .int), Cond.methodLink RX11 228 yX2_copyFrom, Cond.methodLink RX11 232 yX2_live, Cond.instanceMethod yX2_live, Cond.selects RX2 yX2_live yX2_live, Cond.code yX2_live cX2_live 7 (some .int), Cond.methodLink RX2 70 yX2_nextSeed, Cond.static yX2_nextSeed, Cond.code yX2_nextSeed cX2_nextSeed 1 (some .int), Cond.constantLong RX2 86 (1103515245), Cond.constantLong RX2 88 (12345), Cond.constantLong RX2 90 (2147483648), Cond.methodLink RX2 73 yX2_drawn, Cond.instanceMethod yX2_drawn, Cond.selects RX2 yX2_drawn yX2_drawn, Cond.code yX2_drawn cX2_drawn 2 (some .int), Cond.constant RX2 92 (65536), Cond.methodLink RX2 76 yX2_knowsCouple, Cond.methodLink RX2 80 yX2_marry, Cond.methodLink RX2 83 yX2_passYear, Cond.methodLink RX11 235 yX2_allCows, Cond.instanceMethod yX2_allCows, Cond.selects RX2 yX2_allCows yX2_allCows]
def wsL_law_r35 : List Cond := [Cond.code yX2_allCows cX2_allCows 3 (some .int), Cond.methodLink RL 100 yX12_ages, Cond.instanceMethod yX12_ages, Cond.selects RX12 yX12_ages yX12_ages, Cond.code yX12_ages cX12_ages 8 (some .int), Cond.constantLong RX12 220 (40), Cond.constantLong RX12 222 (2), Cond.fieldLink RX12 212 "CowsOwedModel" "seedNow" "I", Cond.methodLink RX12 224 yX12_draw, Cond.instanceMethod yX12_draw, Cond.selects RX12 yX12_draw yX12_draw, Cond.code yX12_draw cX12_draw 2 (some .int), Cond.constantLong RX12 210 (1103515245), Cond.constantLong RX12 215 (12345), Cond.constantLong RX12 217 (2147483647), Cond.constant RX12 219 (65536), Cond.methodLink RX12 227 yX12_cowsAll, Cond.instanceMethod yX12_cowsAll, Cond.selects RX12 yX12_cowsAll yX12_cowsAll, Cond.code yX12_cowsAll cX12_cowsAll 3 (some .int), Cond.methodLink RL 101 yX11_image, Cond.instanceMethod yX11_image, Cond.selects RX11 yX11_image yX11_image, Cond.code yX11_image cX11_image 1 (some .int)]
def wsL_law_r36 : List Cond := [Cond.methodLink RX11 238 yX8_copyFrom, Cond.instanceMethod yX8_copyFrom, Cond.selects RX8 yX8_copyFrom yX8_copyFrom, Cond.code yX8_copyFrom cX8_copyFrom 2 none, Cond.methodLink RX8 52 yX2_copyFrom, Cond.methodLink RX8 56 yX10_copyFrom, Cond.instanceMethod yX10_copyFrom, Cond.selects RX10 yX10_copyFrom yX10_copyFrom, Cond.code yX10_copyFrom cX10_copyFrom 3 none, Cond.methodLink RX8 59 yX5_copyFrom, Cond.instanceMethod yX5_copyFrom, Cond.selects RX5 yX5_copyFrom yX5_copyFrom, Cond.code yX5_copyFrom cX5_copyFrom 3 none, Cond.methodLink RX8 62 yX9_copyFrom, Cond.instanceMethod yX9_copyFrom, Cond.selects RX9 yX9_copyFrom yX9_copyFrom, Cond.code yX9_copyFrom cX9_copyFrom 3 none, Cond.methodLink RL 104 yX12_image, Cond.instanceMethod yX12_image, Cond.selects RX12 yX12_image yX12_image, Cond.code yX12_image cX12_image 1 (some .int), Cond.fieldLink RX12 230 "CowsOwedModel" "keptRate" "I", Cond.fieldLink RX12 233 "CowsOwedModel" "keptYears" "I", Cond.fieldLink RX12 236 "CowsOwedModel" "keptWeddings" "I"]
def wsL_law_r37 : List Cond := [Cond.fieldLink RX12 239 "CowsOwedModel" "keptPlans" "I", Cond.fieldLink RX12 242 "CowsOwedModel" "keptToldMany" "I", Cond.methodLink RL 105 yX11_restore, Cond.instanceMethod yX11_restore, Cond.selects RX11 yX11_restore yX11_restore, Cond.code yX11_restore cX11_restore 1 (some .int), Cond.methodLink RL 108 yX12_restore, Cond.instanceMethod yX12_restore, Cond.selects RX12 yX12_restore yX12_restore, Cond.code yX12_restore cX12_restore 1 (some .int), Cond.methodLink RL 109 yX11_count, Cond.instanceMethod yX11_count, Cond.selects RX11 yX11_count yX11_count, Cond.code yX11_count cX11_count 2 (some .int), Cond.methodLink RL 112 yX12_count, Cond.instanceMethod yX12_count, Cond.selects RX12 yX12_count yX12_count, Cond.code yX12_count cX12_count 2 (some .int), Cond.methodLink RX12 245 yX12_countOf, Cond.instanceMethod yX12_countOf, Cond.selects RX12 yX12_countOf yX12_countOf, Cond.code yX12_countOf cX12_countOf 2 (some .int), Cond.methodLink RL 113 yX11_digest, Cond.instanceMethod yX11_digest]
def wsL_law_r38 : List Cond := [Cond.selects RX11 yX11_digest yX11_digest, Cond.code yX11_digest cX11_digest 8 (some .long), Cond.constantLong RX11 242 (967), Cond.fieldLink RX11 244 "CowsOwed" "CLAN_PARTS" "[I", Cond.fieldLink RX11 267 "CowsOwed$Page" "codes" "[I", Cond.methodLink RX11 247 yX11_clan, Cond.methodLink RX11 250 yX11_mixed, Cond.static yX11_mixed, Cond.code yX11_mixed cX11_mixed 4 (some .long), Cond.constantLong RX11 273 (31), Cond.methodLink RX11 254 yX11_wedding, Cond.methodLink RX11 257 yX11_mixedShallBe, Cond.instanceMethod yX11_mixedShallBe, Cond.selects RX11 yX11_mixedShallBe yX11_mixedShallBe, Cond.code yX11_mixedShallBe cX11_mixedShallBe 6 (some .long), Cond.methodLink RX11 261 yX11_which, Cond.methodLink RX11 264 yX11_ask, Cond.methodLink RX11 270 yX11_count, Cond.methodLink RL 117 yX12_digest, Cond.instanceMethod yX12_digest, Cond.selects RX12 yX12_digest yX12_digest, Cond.code yX12_digest cX12_digest 2 (some .long), Cond.constantLong RX12 258 (967), Cond.fieldLink RX12 250 "CowsOwedModel" "hash" "J"]
def wsL_law_r39 : List Cond := [Cond.methodLink RX12 260 yX12_sayClan, Cond.instanceMethod yX12_sayClan, Cond.selects RX12 yX12_sayClan yX12_sayClan, Cond.code yX12_sayClan cX12_sayClan 3 none, Cond.methodLink RX12 254 yX12_say, Cond.instanceMethod yX12_say, Cond.selects RX12 yX12_say yX12_say, Cond.code yX12_say cX12_say 3 none, Cond.constantLong RX12 248 (31)]
def wsL_law : List Cond := (wsL_law_r1 ++ (wsL_law_r2 ++ (wsL_law_r3 ++ (wsL_law_r4 ++ (wsL_law_r5 ++ (wsL_law_r6 ++ (wsL_law_r7 ++ (wsL_law_r8 ++ (wsL_law_r9 ++ (wsL_law_r10 ++ (wsL_law_r11 ++ (wsL_law_r12 ++ (wsL_law_r13 ++ (wsL_law_r14 ++ (wsL_law_r15 ++ (wsL_law_r16 ++ (wsL_law_r17 ++ (wsL_law_r18 ++ (wsL_law_r19 ++ (wsL_law_r20 ++ (wsL_law_r21 ++ (wsL_law_r22 ++ (wsL_law_r23 ++ (wsL_law_r24 ++ (wsL_law_r25 ++ (wsL_law_r26 ++ (wsL_law_r27 ++ (wsL_law_r28 ++ (wsL_law_r29 ++ (wsL_law_r30 ++ (wsL_law_r31 ++ (wsL_law_r32 ++ (wsL_law_r33 ++ (wsL_law_r34 ++ (wsL_law_r35 ++ (wsL_law_r36 ++ (wsL_law_r37 ++ (wsL_law_r38 ++ wsL_law_r39)))))))))))))))))))))))))))))))))))))) ++ wsX110 ++ wsX120 ++ wsX10 ++ wsX70 ++ wsX60 ++ wsX00 ++ wsX30 ++ wsX40 ++ wsX80 ++ wsX20 ++ wsX100 ++ wsX50 ++ wsX90 ++ ([] : List Cond)
end
section
set_option maxRecDepth 20000 in
theorem wsL_in_1 : ∀ w ∈ wsL_law_r1, w ∈ lw_tbl := fun w h => (goodIn_p wsL_law_r1 [63, 66] (by decide +kernel) (by decide +kernel) w h).1
set_option maxRecDepth 20000 in
theorem wsL_in_2 : ∀ w ∈ wsL_law_r2, w ∈ lw_tbl := fun w h => (goodIn_p wsL_law_r2 [71] (by decide +kernel) (by decide +kernel) w h).1
set_option maxRecDepth 20000 in
theorem wsL_in_3 : ∀ w ∈ wsL_law_r3, w ∈ lw_tbl := fun w h => (goodIn_p wsL_law_r3 [79, 86, 93, 100, 107, 123] (by decide +kernel) (by decide +kernel) w h).1
set_option maxRecDepth 20000 in
theorem wsL_in_4 : ∀ w ∈ wsL_law_r4, w ∈ lw_tbl := fun w h => (goodIn_p wsL_law_r4 [129, 157] (by decide +kernel) (by decide +kernel) w h).1
set_option maxRecDepth 20000 in
theorem wsL_in_5 : ∀ w ∈ wsL_law_r5, w ∈ lw_tbl := fun w h => (goodIn_p wsL_law_r5 [185, 203, 768] (by decide +kernel) (by decide +kernel) w h).1
set_option maxRecDepth 20000 in
theorem wsL_in_6 : ∀ w ∈ wsL_law_r6, w ∈ lw_tbl := fun w h => (goodIn_p wsL_law_r6 [280] (by decide +kernel) (by decide +kernel) w h).1
set_option maxRecDepth 20000 in
theorem wsL_in_7 : ∀ w ∈ wsL_law_r7, w ∈ lw_tbl := fun w h => (goodIn_p wsL_law_r7 [284, 888, 892, 288, 896, 292] (by decide +kernel) (by decide +kernel) w h).1
set_option maxRecDepth 20000 in
theorem wsL_in_8 : ∀ w ∈ wsL_law_r8, w ∈ lw_tbl := fun w h => (goodIn_p wsL_law_r8 [296, 299, 302, 307, 311, 315] (by decide +kernel) (by decide +kernel) w h).1
set_option maxRecDepth 20000 in
theorem wsL_in_9 : ∀ w ∈ wsL_law_r9, w ∈ lw_tbl := fun w h => (goodIn_p wsL_law_r9 [321, 325, 328, 334, 337, 331] (by decide +kernel) (by decide +kernel) w h).1
set_option maxRecDepth 20000 in
theorem wsL_in_10 : ∀ w ∈ wsL_law_r10, w ∈ lw_tbl := fun w h => (goodIn_p wsL_law_r10 [340, 343, 349, 352, 355, 358] (by decide +kernel) (by decide +kernel) w h).1
set_option maxRecDepth 20000 in
theorem wsL_in_11 : ∀ w ∈ wsL_law_r11, w ∈ lw_tbl := fun w h => (goodIn_p wsL_law_r11 [363, 366, 369, 378, 381, 384] (by decide +kernel) (by decide +kernel) w h).1
set_option maxRecDepth 20000 in
theorem wsL_in_12 : ∀ w ∈ wsL_law_r12, w ∈ lw_tbl := fun w h => (goodIn_p wsL_law_r12 [388, 392, 900, 904, 908] (by decide +kernel) (by decide +kernel) w h).1
set_option maxRecDepth 20000 in
theorem wsL_in_13 : ∀ w ∈ wsL_law_r13, w ∈ lw_tbl := fun w h => (goodIn_p wsL_law_r13 [911, 397, 401, 406, 410] (by decide +kernel) (by decide +kernel) w h).1
set_option maxRecDepth 20000 in
theorem wsL_in_14 : ∀ w ∈ wsL_law_r14, w ∈ lw_tbl := fun w h => (goodIn_p wsL_law_r14 [414, 418, 422, 426, 430, 917] (by decide +kernel) (by decide +kernel) w h).1
set_option maxRecDepth 20000 in
theorem wsL_in_15 : ∀ w ∈ wsL_law_r15, w ∈ lw_tbl := fun w h => (goodIn_p wsL_law_r15 [434, 438, 445, 455] (by decide +kernel) (by decide +kernel) w h).1
set_option maxRecDepth 20000 in
theorem wsL_in_16 : ∀ w ∈ wsL_law_r16, w ∈ lw_tbl := fun w h => (goodIn_p wsL_law_r16 [448, 451, 454, 459, 476] (by decide +kernel) (by decide +kernel) w h).1
set_option maxRecDepth 20000 in
theorem wsL_in_17 : ∀ w ∈ wsL_law_r17, w ∈ lw_tbl := fun w h => (goodIn_p wsL_law_r17 [467, 470, 473, 480, 487, 491] (by decide +kernel) (by decide +kernel) w h).1
set_option maxRecDepth 20000 in
theorem wsL_in_18 : ∀ w ∈ wsL_law_r18, w ∈ lw_tbl := fun w h => (goodIn_p wsL_law_r18 [495, 499, 921, 925] (by decide +kernel) (by decide +kernel) w h).1
set_option maxRecDepth 20000 in
theorem wsL_in_19 : ∀ w ∈ wsL_law_r19, w ∈ lw_tbl := fun w h => (goodIn_p wsL_law_r19 [929, 934, 938, 942, 946, 503] (by decide +kernel) (by decide +kernel) w h).1
set_option maxRecDepth 20000 in
theorem wsL_in_20 : ∀ w ∈ wsL_law_r20, w ∈ lw_tbl := fun w h => (goodIn_p wsL_law_r20 [506, 950, 510, 513, 517] (by decide +kernel) (by decide +kernel) w h).1
set_option maxRecDepth 20000 in
theorem wsL_in_21 : ∀ w ∈ wsL_law_r21, w ∈ lw_tbl := fun w h => (goodIn_p wsL_law_r21 [955, 959, 521, 525, 530] (by decide +kernel) (by decide +kernel) w h).1
set_option maxRecDepth 20000 in
theorem wsL_in_22 : ∀ w ∈ wsL_law_r22, w ∈ lw_tbl := fun w h => (goodIn_p wsL_law_r22 [534, 539, 963, 967, 971, 975] (by decide +kernel) (by decide +kernel) w h).1
set_option maxRecDepth 20000 in
theorem wsL_in_23 : ∀ w ∈ wsL_law_r23, w ∈ lw_tbl := fun w h => (goodIn_p wsL_law_r23 [979, 543, 547, 983, 551] (by decide +kernel) (by decide +kernel) w h).1
end
section
set_option maxRecDepth 20000 in
theorem wsL_in_24 : ∀ w ∈ wsL_law_r24, w ∈ lw_tbl := fun w h => (goodIn_p wsL_law_r24 [988, 556, 560, 563, 568] (by decide +kernel) (by decide +kernel) w h).1
set_option maxRecDepth 20000 in
theorem wsL_in_25 : ∀ w ∈ wsL_law_r25, w ∈ lw_tbl := fun w h => (goodIn_p wsL_law_r25 [572, 992, 996, 1000, 577, 581] (by decide +kernel) (by decide +kernel) w h).1
set_option maxRecDepth 20000 in
theorem wsL_in_26 : ∀ w ∈ wsL_law_r26, w ∈ lw_tbl := fun w h => (goodIn_p wsL_law_r26 [1004, 1008, 586, 590, 1012] (by decide +kernel) (by decide +kernel) w h).1
set_option maxRecDepth 20000 in
theorem wsL_in_27 : ∀ w ∈ wsL_law_r27, w ∈ lw_tbl := fun w h => (goodIn_p wsL_law_r27 [594, 1016, 598, 602, 606] (by decide +kernel) (by decide +kernel) w h).1
set_option maxRecDepth 20000 in
theorem wsL_in_28 : ∀ w ∈ wsL_law_r28, w ∈ lw_tbl := fun w h => (goodIn_p wsL_law_r28 [610, 614, 623, 627, 631] (by decide +kernel) (by decide +kernel) w h).1
set_option maxRecDepth 20000 in
theorem wsL_in_29 : ∀ w ∈ wsL_law_r29, w ∈ lw_tbl := fun w h => (goodIn_p wsL_law_r29 [1020, 1024, 1028, 1032, 1035, 1039, 1043] (by decide +kernel) (by decide +kernel) w h).1
set_option maxRecDepth 20000 in
theorem wsL_in_30 : ∀ w ∈ wsL_law_r30, w ∈ lw_tbl := fun w h => (goodIn_p wsL_law_r30 [635, 639, 642, 1047, 1051] (by decide +kernel) (by decide +kernel) w h).1
set_option maxRecDepth 20000 in
theorem wsL_in_31 : ∀ w ∈ wsL_law_r31, w ∈ lw_tbl := fun w h => (goodIn_p wsL_law_r31 [647, 651, 1055, 655, 1060] (by decide +kernel) (by decide +kernel) w h).1
set_option maxRecDepth 20000 in
theorem wsL_in_32 : ∀ w ∈ wsL_law_r32, w ∈ lw_tbl := fun w h => (goodIn_p wsL_law_r32 [659, 663, 667, 1064, 1068, 672] (by decide +kernel) (by decide +kernel) w h).1
set_option maxRecDepth 20000 in
theorem wsL_in_33 : ∀ w ∈ wsL_law_r33, w ∈ lw_tbl := fun w h => (goodIn_p wsL_law_r33 [676, 680, 683, 686, 1072, 1076] (by decide +kernel) (by decide +kernel) w h).1
set_option maxRecDepth 20000 in
theorem wsL_in_34 : ∀ w ∈ wsL_law_r34, w ∈ lw_tbl := fun w h => (goodIn_p wsL_law_r34 [691, 696, 699, 706] (by decide +kernel) (by decide +kernel) w h).1
set_option maxRecDepth 20000 in
theorem wsL_in_35 : ∀ w ∈ wsL_law_r35, w ∈ lw_tbl := fun w h => (goodIn_p wsL_law_r35 [714, 1080, 1086, 1094, 718] (by decide +kernel) (by decide +kernel) w h).1
set_option maxRecDepth 20000 in
theorem wsL_in_36 : ∀ w ∈ wsL_law_r36, w ∈ lw_tbl := fun w h => (goodIn_p wsL_law_r36 [722, 727, 731, 735, 1098] (by decide +kernel) (by decide +kernel) w h).1
set_option maxRecDepth 20000 in
theorem wsL_in_37 : ∀ w ∈ wsL_law_r37, w ∈ lw_tbl := fun w h => (goodIn_p wsL_law_r37 [739, 1102, 743, 1106, 1110] (by decide +kernel) (by decide +kernel) w h).1
set_option maxRecDepth 20000 in
theorem wsL_in_38 : ∀ w ∈ wsL_law_r38, w ∈ lw_tbl := fun w h => (goodIn_p wsL_law_r38 [747, 754, 760, 1114] (by decide +kernel) (by decide +kernel) w h).1
set_option maxRecDepth 20000 in
theorem wsL_in_39 : ∀ w ∈ wsL_law_r39, w ∈ lw_tbl := fun w h => (goodIn_p wsL_law_r39 [1119, 1123] (by decide +kernel) (by decide +kernel) w h).1
theorem wsL_in_wsX110 : ∀ w ∈ wsX110, w ∈ lw_tbl := by decide +kernel
theorem wsL_in_wsX120 : ∀ w ∈ wsX120, w ∈ lw_tbl := by decide +kernel
theorem wsL_in_wsX10 : ∀ w ∈ wsX10, w ∈ lw_tbl := by decide +kernel
theorem wsL_in_wsX70 : ∀ w ∈ wsX70, w ∈ lw_tbl := by decide +kernel
theorem wsL_in_wsX60 : ∀ w ∈ wsX60, w ∈ lw_tbl := by decide +kernel
theorem wsL_in_wsX00 : ∀ w ∈ wsX00, w ∈ lw_tbl := by decide +kernel
theorem wsL_in_wsX30 : ∀ w ∈ wsX30, w ∈ lw_tbl := by decide +kernel
theorem wsL_in_wsX40 : ∀ w ∈ wsX40, w ∈ lw_tbl := by decide +kernel
theorem wsL_in_wsX80 : ∀ w ∈ wsX80, w ∈ lw_tbl := by decide +kernel
theorem wsL_in_wsX20 : ∀ w ∈ wsX20, w ∈ lw_tbl := by decide +kernel
theorem wsL_in_wsX100 : ∀ w ∈ wsX100, w ∈ lw_tbl := by decide +kernel
theorem wsL_in_wsX50 : ∀ w ∈ wsX50, w ∈ lw_tbl := by decide +kernel
theorem wsL_in_wsX90 : ∀ w ∈ wsX90, w ∈ lw_tbl := by decide +kernel
theorem wsL_law_in : ∀ w ∈ wsL_law, w ∈ lw_tbl := by
  unfold wsL_law
  exact List.forall_mem_append.mpr ⟨List.forall_mem_append.mpr ⟨List.forall_mem_append.mpr ⟨List.forall_mem_append.mpr ⟨List.forall_mem_append.mpr ⟨List.forall_mem_append.mpr ⟨List.forall_mem_append.mpr ⟨List.forall_mem_append.mpr ⟨List.forall_mem_append.mpr ⟨List.forall_mem_append.mpr ⟨List.forall_mem_append.mpr ⟨List.forall_mem_append.mpr ⟨List.forall_mem_append.mpr ⟨List.forall_mem_append.mpr ⟨List.forall_mem_append.mpr ⟨wsL_in_1, List.forall_mem_append.mpr ⟨wsL_in_2, List.forall_mem_append.mpr ⟨wsL_in_3, List.forall_mem_append.mpr ⟨wsL_in_4, List.forall_mem_append.mpr ⟨wsL_in_5, List.forall_mem_append.mpr ⟨wsL_in_6, List.forall_mem_append.mpr ⟨wsL_in_7, List.forall_mem_append.mpr ⟨wsL_in_8, List.forall_mem_append.mpr ⟨wsL_in_9, List.forall_mem_append.mpr ⟨wsL_in_10, List.forall_mem_append.mpr ⟨wsL_in_11, List.forall_mem_append.mpr ⟨wsL_in_12, List.forall_mem_append.mpr ⟨wsL_in_13, List.forall_mem_append.mpr ⟨wsL_in_14, List.forall_mem_append.mpr ⟨wsL_in_15, List.forall_mem_append.mpr ⟨wsL_in_16, List.forall_mem_append.mpr ⟨wsL_in_17, List.forall_mem_append.mpr ⟨wsL_in_18, List.forall_mem_append.mpr ⟨wsL_in_19, List.forall_mem_append.mpr ⟨wsL_in_20, List.forall_mem_append.mpr ⟨wsL_in_21, List.forall_mem_append.mpr ⟨wsL_in_22, List.forall_mem_append.mpr ⟨wsL_in_23, List.forall_mem_append.mpr ⟨wsL_in_24, List.forall_mem_append.mpr ⟨wsL_in_25, List.forall_mem_append.mpr ⟨wsL_in_26, List.forall_mem_append.mpr ⟨wsL_in_27, List.forall_mem_append.mpr ⟨wsL_in_28, List.forall_mem_append.mpr ⟨wsL_in_29, List.forall_mem_append.mpr ⟨wsL_in_30, List.forall_mem_append.mpr ⟨wsL_in_31, List.forall_mem_append.mpr ⟨wsL_in_32, List.forall_mem_append.mpr ⟨wsL_in_33, List.forall_mem_append.mpr ⟨wsL_in_34, List.forall_mem_append.mpr ⟨wsL_in_35, List.forall_mem_append.mpr ⟨wsL_in_36, List.forall_mem_append.mpr ⟨wsL_in_37, List.forall_mem_append.mpr ⟨wsL_in_38, wsL_in_39⟩⟩⟩⟩⟩⟩⟩⟩⟩⟩⟩⟩⟩⟩⟩⟩⟩⟩⟩⟩⟩⟩⟩⟩⟩⟩⟩⟩⟩⟩⟩⟩⟩⟩⟩⟩⟩⟩, wsL_in_wsX110⟩, wsL_in_wsX120⟩, wsL_in_wsX10⟩, wsL_in_wsX70⟩, wsL_in_wsX60⟩, wsL_in_wsX00⟩, wsL_in_wsX30⟩, wsL_in_wsX40⟩, wsL_in_wsX80⟩, wsL_in_wsX20⟩, wsL_in_wsX100⟩, wsL_in_wsX50⟩, wsL_in_wsX90⟩, fun _ h => absurd h List.not_mem_nil⟩
end
section
theorem inlX0 : ∀ w ∈ wsX00, w ∈ wsL_law := fun _ h => List.mem_append_left _ (List.mem_append_left _ (List.mem_append_left _ (List.mem_append_left _ (List.mem_append_left _ (List.mem_append_left _ (List.mem_append_left _ (List.mem_append_left _ (List.mem_append_right _ h))))))))
theorem inX0 : ∀ w ∈ wsX00, w ∈ lw_tbl := fun w h => wsL_law_in w (inlX0 w h)
theorem inlX1 : ∀ w ∈ wsX10, w ∈ wsL_law := fun _ h => List.mem_append_left _ (List.mem_append_left _ (List.mem_append_left _ (List.mem_append_left _ (List.mem_append_left _ (List.mem_append_left _ (List.mem_append_left _ (List.mem_append_left _ (List.mem_append_left _ (List.mem_append_left _ (List.mem_append_left _ (List.mem_append_right _ h)))))))))))
theorem inX1 : ∀ w ∈ wsX10, w ∈ lw_tbl := fun w h => wsL_law_in w (inlX1 w h)
theorem inlX2 : ∀ w ∈ wsX20, w ∈ wsL_law := fun _ h => List.mem_append_left _ (List.mem_append_left _ (List.mem_append_left _ (List.mem_append_left _ (List.mem_append_right _ h))))
theorem inX2 : ∀ w ∈ wsX20, w ∈ lw_tbl := fun w h => wsL_law_in w (inlX2 w h)
theorem inlX3 : ∀ w ∈ wsX30, w ∈ wsL_law := fun _ h => List.mem_append_left _ (List.mem_append_left _ (List.mem_append_left _ (List.mem_append_left _ (List.mem_append_left _ (List.mem_append_left _ (List.mem_append_left _ (List.mem_append_right _ h)))))))
theorem inX3 : ∀ w ∈ wsX30, w ∈ lw_tbl := fun w h => wsL_law_in w (inlX3 w h)
theorem inlX4 : ∀ w ∈ wsX40, w ∈ wsL_law := fun _ h => List.mem_append_left _ (List.mem_append_left _ (List.mem_append_left _ (List.mem_append_left _ (List.mem_append_left _ (List.mem_append_left _ (List.mem_append_right _ h))))))
theorem inX4 : ∀ w ∈ wsX40, w ∈ lw_tbl := fun w h => wsL_law_in w (inlX4 w h)
theorem inlX5 : ∀ w ∈ wsX50, w ∈ wsL_law := fun _ h => List.mem_append_left _ (List.mem_append_left _ (List.mem_append_right _ h))
theorem inX5 : ∀ w ∈ wsX50, w ∈ lw_tbl := fun w h => wsL_law_in w (inlX5 w h)
theorem inlX6 : ∀ w ∈ wsX60, w ∈ wsL_law := fun _ h => List.mem_append_left _ (List.mem_append_left _ (List.mem_append_left _ (List.mem_append_left _ (List.mem_append_left _ (List.mem_append_left _ (List.mem_append_left _ (List.mem_append_left _ (List.mem_append_left _ (List.mem_append_right _ h)))))))))
theorem inX6 : ∀ w ∈ wsX60, w ∈ lw_tbl := fun w h => wsL_law_in w (inlX6 w h)
theorem inlX7 : ∀ w ∈ wsX70, w ∈ wsL_law := fun _ h => List.mem_append_left _ (List.mem_append_left _ (List.mem_append_left _ (List.mem_append_left _ (List.mem_append_left _ (List.mem_append_left _ (List.mem_append_left _ (List.mem_append_left _ (List.mem_append_left _ (List.mem_append_left _ (List.mem_append_right _ h))))))))))
theorem inX7 : ∀ w ∈ wsX70, w ∈ lw_tbl := fun w h => wsL_law_in w (inlX7 w h)
theorem inlX8 : ∀ w ∈ wsX80, w ∈ wsL_law := fun _ h => List.mem_append_left _ (List.mem_append_left _ (List.mem_append_left _ (List.mem_append_left _ (List.mem_append_left _ (List.mem_append_right _ h)))))
theorem inX8 : ∀ w ∈ wsX80, w ∈ lw_tbl := fun w h => wsL_law_in w (inlX8 w h)
theorem inlX9 : ∀ w ∈ wsX90, w ∈ wsL_law := fun _ h => List.mem_append_left _ (List.mem_append_right _ h)
theorem inX9 : ∀ w ∈ wsX90, w ∈ lw_tbl := fun w h => wsL_law_in w (inlX9 w h)
theorem inlX10 : ∀ w ∈ wsX100, w ∈ wsL_law := fun _ h => List.mem_append_left _ (List.mem_append_left _ (List.mem_append_left _ (List.mem_append_right _ h)))
theorem inX10 : ∀ w ∈ wsX100, w ∈ lw_tbl := fun w h => wsL_law_in w (inlX10 w h)
theorem inlX11 : ∀ w ∈ wsX110, w ∈ wsL_law := fun _ h => List.mem_append_left _ (List.mem_append_left _ (List.mem_append_left _ (List.mem_append_left _ (List.mem_append_left _ (List.mem_append_left _ (List.mem_append_left _ (List.mem_append_left _ (List.mem_append_left _ (List.mem_append_left _ (List.mem_append_left _ (List.mem_append_left _ (List.mem_append_left _ (List.mem_append_right _ h)))))))))))))
theorem inX11 : ∀ w ∈ wsX110, w ∈ lw_tbl := fun w h => wsL_law_in w (inlX11 w h)
theorem inlX12 : ∀ w ∈ wsX120, w ∈ wsL_law := fun _ h => List.mem_append_left _ (List.mem_append_left _ (List.mem_append_left _ (List.mem_append_left _ (List.mem_append_left _ (List.mem_append_left _ (List.mem_append_left _ (List.mem_append_left _ (List.mem_append_left _ (List.mem_append_left _ (List.mem_append_left _ (List.mem_append_left _ (List.mem_append_right _ h))))))))))))
theorem inX12 : ∀ w ∈ wsX120, w ∈ lw_tbl := fun w h => wsL_law_in w (inlX12 w h)
theorem inJ11 : ∀ w ∈ wsJ110, w ∈ lw_tbl := by decide +kernel
theorem inJ9 : ∀ w ∈ wsJ90, w ∈ lw_tbl := by decide +kernel
theorem inJ0 : ∀ w ∈ wsJ00, w ∈ lw_tbl := by decide +kernel
theorem inJ1 : ∀ w ∈ wsJ10, w ∈ lw_tbl := by decide +kernel
theorem inJ2 : ∀ w ∈ wsJ20, w ∈ lw_tbl := by decide +kernel
theorem inJ10 : ∀ w ∈ wsJ100, w ∈ lw_tbl := by decide +kernel
theorem inJ3 : ∀ w ∈ wsJ30, w ∈ lw_tbl := by decide +kernel
set_option maxRecDepth 20000 in
theorem ggX0_init_X1_init : GoodIn wsX0_init wsX1_init := goodIn_r _ [3, 4, 5, 6] (by decide +kernel) (by decide +kernel)
set_option maxRecDepth 20000 in
theorem gX0_init_X1_init_n3 : GoodIn wsX0_init (wsX1_init) := ggX0_init_X1_init
theorem dX0_init_0 : decode cX0_init 0 = .ok (.aload_n 0, 1) := by decide +kernel
theorem dX0_init_1 : decode cX0_init 1 = .ok (.invokespecial 3, 3) := by decide +kernel
theorem dX0_init_4 : decode cX0_init 4 = .ok (.return_, 1) := by decide +kernel
theorem dX0_number_0 : decode cX0_number 0 = .ok (.iconst 3, 1) := by decide +kernel
theorem dX0_number_1 : decode cX0_number 1 = .ok (.ireturn, 1) := by decide +kernel
theorem dX0_spares_0 : decode cX0_spares 0 = .ok (.iload_n 1, 1) := by decide +kernel
theorem dX0_spares_1 : decode cX0_spares 1 = .ok (.ifCond .le 9, 3) := by decide +kernel
theorem dX0_spares_4 : decode cX0_spares 4 = .ok (.iload_n 1, 1) := by decide +kernel
theorem dX0_spares_5 : decode cX0_spares 5 = .ok (.iconst 1, 1) := by decide +kernel
theorem dX0_spares_6 : decode cX0_spares 6 = .ok (.isub, 1) := by decide +kernel
theorem dX0_spares_7 : decode cX0_spares 7 = .ok (.goto 4, 3) := by decide +kernel
theorem dX0_spares_10 : decode cX0_spares 10 = .ok (.iconst 0, 1) := by decide +kernel
theorem dX0_spares_11 : decode cX0_spares 11 = .ok (.ireturn, 1) := by decide +kernel
theorem dX1_init_0 : decode cX1_init 0 = .ok (.aload_n 0, 1) := by decide +kernel
theorem dX1_init_1 : decode cX1_init 1 = .ok (.invokespecial 3, 3) := by decide +kernel
theorem dX1_init_4 : decode cX1_init 4 = .ok (.return_, 1) := by decide +kernel
theorem dX1_number_0 : decode cX1_number 0 = .ok (.iconst 0, 1) := by decide +kernel
theorem dX1_number_1 : decode cX1_number 1 = .ok (.ireturn, 1) := by decide +kernel
theorem dX1_asks_0 : decode cX1_asks 0 = .ok (.iload_n 1, 1) := by decide +kernel
theorem dX1_asks_1 : decode cX1_asks 1 = .ok (.ireturn, 1) := by decide +kernel
theorem dX1_spares_0 : decode cX1_spares 0 = .ok (.iload_n 1, 1) := by decide +kernel
theorem dX1_spares_1 : decode cX1_spares 1 = .ok (.ireturn, 1) := by decide +kernel
theorem dX2_init_0 : decode cX2_init 0 = .ok (.aload_n 0, 1) := by decide +kernel
theorem dX2_init_1 : decode cX2_init 1 = .ok (.invokespecial 3, 3) := by decide +kernel
theorem dX2_init_4 : decode cX2_init 4 = .ok (.aload_n 0, 1) := by decide +kernel
theorem dX2_init_5 : decode cX2_init 5 = .ok (.iconst 4, 1) := by decide +kernel
theorem dX2_init_6 : decode cX2_init 6 = .ok (.newarray .int, 2) := by decide +kernel
theorem dX2_init_8 : decode cX2_init 8 = .ok (.putfield 9, 3) := by decide +kernel
theorem dX2_init_11 : decode cX2_init 11 = .ok (.aload_n 0, 1) := by decide +kernel
theorem dX2_init_12 : decode cX2_init 12 = .ok (.iconst 4, 1) := by decide +kernel
theorem dX2_init_13 : decode cX2_init 13 = .ok (.iconst 4, 1) := by decide +kernel
theorem dX2_init_14 : decode cX2_init 14 = .ok (.multianewarray 15 2, 4) := by decide +kernel
theorem dX2_init_18 : decode cX2_init 18 = .ok (.putfield 17, 3) := by decide +kernel
theorem dX2_init_21 : decode cX2_init 21 = .ok (.aload_n 0, 1) := by decide +kernel
theorem dX2_init_22 : decode cX2_init 22 = .ok (.iconst 0, 1) := by decide +kernel
theorem dX2_init_23 : decode cX2_init 23 = .ok (.putfield 20, 3) := by decide +kernel
theorem dX2_init_26 : decode cX2_init 26 = .ok (.aload_n 0, 1) := by decide +kernel
theorem dX2_init_27 : decode cX2_init 27 = .ok (.iconst 0, 1) := by decide +kernel
theorem dX2_init_28 : decode cX2_init 28 = .ok (.putfield 24, 3) := by decide +kernel
theorem dX2_init_31 : decode cX2_init 31 = .ok (.aload_n 0, 1) := by decide +kernel
theorem dX2_init_32 : decode cX2_init 32 = .ok (.aload_n 1, 1) := by decide +kernel
theorem dX2_init_33 : decode cX2_init 33 = .ok (.putfield 27, 3) := by decide +kernel
theorem dX2_init_36 : decode cX2_init 36 = .ok (.return_, 1) := by decide +kernel
theorem dX2_begin_0 : decode cX2_begin 0 = .ok (.aload_n 0, 1) := by decide +kernel
theorem dX2_begin_1 : decode cX2_begin 1 = .ok (.iload_n 1, 1) := by decide +kernel
theorem dX2_begin_2 : decode cX2_begin 2 = .ok (.putfield 20, 3) := by decide +kernel
theorem dX2_begin_5 : decode cX2_begin 5 = .ok (.aload_n 0, 1) := by decide +kernel
theorem dX2_begin_6 : decode cX2_begin 6 = .ok (.iload_n 2, 1) := by decide +kernel
theorem dX2_begin_7 : decode cX2_begin 7 = .ok (.putfield 24, 3) := by decide +kernel
theorem dX2_begin_10 : decode cX2_begin 10 = .ok (.iconst 0, 1) := by decide +kernel
theorem dX2_begin_11 : decode cX2_begin 11 = .ok (.istore_n 3, 1) := by decide +kernel
theorem dX2_begin_12 : decode cX2_begin 12 = .ok (.iload_n 3, 1) := by decide +kernel
theorem dX2_begin_13 : decode cX2_begin 13 = .ok (.iconst 4, 1) := by decide +kernel
theorem dX2_begin_14 : decode cX2_begin 14 = .ok (.if_icmp .ge 41, 3) := by decide +kernel
theorem dX2_begin_17 : decode cX2_begin 17 = .ok (.aload_n 0, 1) := by decide +kernel
theorem dX2_begin_18 : decode cX2_begin 18 = .ok (.getfield 9, 3) := by decide +kernel
theorem dX2_begin_21 : decode cX2_begin 21 = .ok (.iload_n 3, 1) := by decide +kernel
theorem dX2_begin_22 : decode cX2_begin 22 = .ok (.iconst 0, 1) := by decide +kernel
theorem dX2_begin_23 : decode cX2_begin 23 = .ok (.iastore, 1) := by decide +kernel
theorem dX2_begin_24 : decode cX2_begin 24 = .ok (.iconst 0, 1) := by decide +kernel
theorem dX2_begin_25 : decode cX2_begin 25 = .ok (.istore 4, 2) := by decide +kernel
theorem dX2_begin_27 : decode cX2_begin 27 = .ok (.iload 4, 2) := by decide +kernel
theorem dX2_begin_29 : decode cX2_begin 29 = .ok (.iconst 4, 1) := by decide +kernel
theorem dX2_begin_30 : decode cX2_begin 30 = .ok (.if_icmp .ge 19, 3) := by decide +kernel
theorem dX2_begin_33 : decode cX2_begin 33 = .ok (.aload_n 0, 1) := by decide +kernel
theorem dX2_begin_34 : decode cX2_begin 34 = .ok (.getfield 17, 3) := by decide +kernel
theorem dX2_begin_37 : decode cX2_begin 37 = .ok (.iload_n 3, 1) := by decide +kernel
theorem dX2_begin_38 : decode cX2_begin 38 = .ok (.aaload, 1) := by decide +kernel
theorem dX2_begin_39 : decode cX2_begin 39 = .ok (.iload 4, 2) := by decide +kernel
theorem dX2_begin_41 : decode cX2_begin 41 = .ok (.iconst 0, 1) := by decide +kernel
theorem dX2_begin_42 : decode cX2_begin 42 = .ok (.iastore, 1) := by decide +kernel
theorem dX2_begin_43 : decode cX2_begin 43 = .ok (.iinc 4 1, 3) := by decide +kernel
theorem dX2_begin_46 : decode cX2_begin 46 = .ok (.goto (-19), 3) := by decide +kernel
theorem dX2_begin_49 : decode cX2_begin 49 = .ok (.iinc 3 1, 3) := by decide +kernel
theorem dX2_begin_52 : decode cX2_begin 52 = .ok (.goto (-40), 3) := by decide +kernel
theorem dX2_begin_55 : decode cX2_begin 55 = .ok (.return_, 1) := by decide +kernel
theorem dX2_copyFrom_0 : decode cX2_copyFrom 0 = .ok (.aload_n 0, 1) := by decide +kernel
theorem dX2_copyFrom_1 : decode cX2_copyFrom 1 = .ok (.aload_n 1, 1) := by decide +kernel
theorem dX2_copyFrom_2 : decode cX2_copyFrom 2 = .ok (.getfield 20, 3) := by decide +kernel
theorem dX2_copyFrom_5 : decode cX2_copyFrom 5 = .ok (.putfield 20, 3) := by decide +kernel
theorem dX2_copyFrom_8 : decode cX2_copyFrom 8 = .ok (.aload_n 0, 1) := by decide +kernel
theorem dX2_copyFrom_9 : decode cX2_copyFrom 9 = .ok (.aload_n 1, 1) := by decide +kernel
theorem dX2_copyFrom_10 : decode cX2_copyFrom 10 = .ok (.getfield 24, 3) := by decide +kernel
theorem dX2_copyFrom_13 : decode cX2_copyFrom 13 = .ok (.putfield 24, 3) := by decide +kernel
theorem dX2_copyFrom_16 : decode cX2_copyFrom 16 = .ok (.iconst 0, 1) := by decide +kernel
theorem dX2_copyFrom_17 : decode cX2_copyFrom 17 = .ok (.istore_n 2, 1) := by decide +kernel
theorem dX2_copyFrom_18 : decode cX2_copyFrom 18 = .ok (.iload_n 2, 1) := by decide +kernel
theorem dX2_copyFrom_19 : decode cX2_copyFrom 19 = .ok (.iconst 4, 1) := by decide +kernel
theorem dX2_copyFrom_20 : decode cX2_copyFrom 20 = .ok (.if_icmp .ge 50, 3) := by decide +kernel
theorem dX2_copyFrom_23 : decode cX2_copyFrom 23 = .ok (.aload_n 0, 1) := by decide +kernel
theorem dX2_copyFrom_24 : decode cX2_copyFrom 24 = .ok (.getfield 9, 3) := by decide +kernel
theorem dX2_copyFrom_27 : decode cX2_copyFrom 27 = .ok (.iload_n 2, 1) := by decide +kernel
theorem dX2_copyFrom_28 : decode cX2_copyFrom 28 = .ok (.aload_n 1, 1) := by decide +kernel
theorem dX2_copyFrom_29 : decode cX2_copyFrom 29 = .ok (.getfield 9, 3) := by decide +kernel
theorem dX2_copyFrom_32 : decode cX2_copyFrom 32 = .ok (.iload_n 2, 1) := by decide +kernel
theorem dX2_copyFrom_33 : decode cX2_copyFrom 33 = .ok (.iaload, 1) := by decide +kernel
theorem dX2_copyFrom_34 : decode cX2_copyFrom 34 = .ok (.iastore, 1) := by decide +kernel
theorem dX2_copyFrom_35 : decode cX2_copyFrom 35 = .ok (.iconst 0, 1) := by decide +kernel
theorem dX2_copyFrom_36 : decode cX2_copyFrom 36 = .ok (.istore_n 3, 1) := by decide +kernel
theorem dX2_copyFrom_37 : decode cX2_copyFrom 37 = .ok (.iload_n 3, 1) := by decide +kernel
theorem dX2_copyFrom_38 : decode cX2_copyFrom 38 = .ok (.iconst 4, 1) := by decide +kernel
theorem dX2_copyFrom_39 : decode cX2_copyFrom 39 = .ok (.if_icmp .ge 25, 3) := by decide +kernel
theorem dX2_copyFrom_42 : decode cX2_copyFrom 42 = .ok (.aload_n 0, 1) := by decide +kernel
theorem dX2_copyFrom_43 : decode cX2_copyFrom 43 = .ok (.getfield 17, 3) := by decide +kernel
theorem dX2_copyFrom_46 : decode cX2_copyFrom 46 = .ok (.iload_n 2, 1) := by decide +kernel
theorem dX2_copyFrom_47 : decode cX2_copyFrom 47 = .ok (.aaload, 1) := by decide +kernel
theorem dX2_copyFrom_48 : decode cX2_copyFrom 48 = .ok (.iload_n 3, 1) := by decide +kernel
theorem dX2_copyFrom_49 : decode cX2_copyFrom 49 = .ok (.aload_n 1, 1) := by decide +kernel
theorem dX2_copyFrom_50 : decode cX2_copyFrom 50 = .ok (.getfield 17, 3) := by decide +kernel
theorem dX2_copyFrom_53 : decode cX2_copyFrom 53 = .ok (.iload_n 2, 1) := by decide +kernel
theorem dX2_copyFrom_54 : decode cX2_copyFrom 54 = .ok (.aaload, 1) := by decide +kernel
theorem dX2_copyFrom_55 : decode cX2_copyFrom 55 = .ok (.iload_n 3, 1) := by decide +kernel
theorem dX2_copyFrom_56 : decode cX2_copyFrom 56 = .ok (.iaload, 1) := by decide +kernel
theorem dX2_copyFrom_57 : decode cX2_copyFrom 57 = .ok (.iastore, 1) := by decide +kernel
theorem dX2_copyFrom_58 : decode cX2_copyFrom 58 = .ok (.iinc 3 1, 3) := by decide +kernel
theorem dX2_copyFrom_61 : decode cX2_copyFrom 61 = .ok (.goto (-24), 3) := by decide +kernel
theorem dX2_copyFrom_64 : decode cX2_copyFrom 64 = .ok (.iinc 2 1, 3) := by decide +kernel
theorem dX2_copyFrom_67 : decode cX2_copyFrom 67 = .ok (.goto (-49), 3) := by decide +kernel
theorem dX2_copyFrom_70 : decode cX2_copyFrom 70 = .ok (.return_, 1) := by decide +kernel
theorem dX2_knows_0 : decode cX2_knows 0 = .ok (.iload_n 1, 1) := by decide +kernel
theorem dX2_knows_1 : decode cX2_knows 1 = .ok (.ifCond .lt 15, 3) := by decide +kernel
theorem dX2_knows_4 : decode cX2_knows 4 = .ok (.iload_n 1, 1) := by decide +kernel
theorem dX2_knows_5 : decode cX2_knows 5 = .ok (.aload_n 0, 1) := by decide +kernel
theorem dX2_knows_6 : decode cX2_knows 6 = .ok (.getfield 20, 3) := by decide +kernel
theorem dX2_knows_9 : decode cX2_knows 9 = .ok (.if_icmp .ge 7, 3) := by decide +kernel
theorem dX2_knows_12 : decode cX2_knows 12 = .ok (.iconst 1, 1) := by decide +kernel
theorem dX2_knows_13 : decode cX2_knows 13 = .ok (.goto 4, 3) := by decide +kernel
theorem dX2_knows_16 : decode cX2_knows 16 = .ok (.iconst 0, 1) := by decide +kernel
theorem dX2_knows_17 : decode cX2_knows 17 = .ok (.ireturn, 1) := by decide +kernel
set_option maxRecDepth 20000 in
theorem ggX2_knowsCouple_X2_knows : GoodIn wsX2_knowsCouple wsX2_knows := goodIn_r _ [5, 6, 7, 8, 9, 10, 11] (by decide +kernel) (by decide +kernel)
set_option maxRecDepth 20000 in
theorem gX2_knowsCouple_X2_knows : GoodIn wsX2_knowsCouple (wsV RX2 31 RX2 yX2_knows wsX2_knows) := goodIn_app (goodIn_of _ (by decide +kernel)) ggX2_knowsCouple_X2_knows
theorem dX2_knowsCouple_0 : decode cX2_knowsCouple 0 = .ok (.aload_n 0, 1) := by decide +kernel
theorem dX2_knowsCouple_1 : decode cX2_knowsCouple 1 = .ok (.iload_n 1, 1) := by decide +kernel
theorem dX2_knowsCouple_2 : decode cX2_knowsCouple 2 = .ok (.invokevirtual 31, 3) := by decide +kernel
theorem dX2_knowsCouple_5 : decode cX2_knowsCouple 5 = .ok (.ifCond .eq 20, 3) := by decide +kernel
theorem dX2_knowsCouple_8 : decode cX2_knowsCouple 8 = .ok (.aload_n 0, 1) := by decide +kernel
theorem dX2_knowsCouple_9 : decode cX2_knowsCouple 9 = .ok (.iload_n 2, 1) := by decide +kernel
theorem dX2_knowsCouple_10 : decode cX2_knowsCouple 10 = .ok (.invokevirtual 31, 3) := by decide +kernel
theorem dX2_knowsCouple_13 : decode cX2_knowsCouple 13 = .ok (.ifCond .eq 12, 3) := by decide +kernel
theorem dX2_knowsCouple_16 : decode cX2_knowsCouple 16 = .ok (.iload_n 1, 1) := by decide +kernel
theorem dX2_knowsCouple_17 : decode cX2_knowsCouple 17 = .ok (.iload_n 2, 1) := by decide +kernel
theorem dX2_knowsCouple_18 : decode cX2_knowsCouple 18 = .ok (.if_icmp .eq 7, 3) := by decide +kernel
theorem dX2_knowsCouple_21 : decode cX2_knowsCouple 21 = .ok (.iconst 1, 1) := by decide +kernel
theorem dX2_knowsCouple_22 : decode cX2_knowsCouple 22 = .ok (.goto 4, 3) := by decide +kernel
theorem dX2_knowsCouple_25 : decode cX2_knowsCouple 25 = .ok (.iconst 0, 1) := by decide +kernel
theorem dX2_knowsCouple_26 : decode cX2_knowsCouple 26 = .ok (.ireturn, 1) := by decide +kernel
set_option maxRecDepth 20000 in
theorem ggX2_askedBy_X1_asks : GoodIn wsX2_askedBy wsX1_asks := goodIn_r _ [8] (by decide +kernel) (by decide +kernel)
set_option maxRecDepth 20000 in
theorem gX2_askedBy_X1_asks_u35X0 : GoodIn wsX2_askedBy (va_wsU RX2 35 RX0 "CowsOwed$Clan" ⟨"CowsOwed$Clan", "asks", "(I)I"⟩ yX1_asks wsX1_asks) := goodIn_app (goodIn_of _ (by decide +kernel)) ggX2_askedBy_X1_asks
set_option maxRecDepth 20000 in
theorem gX2_askedBy_X1_asks : GoodIn wsX2_askedBy (wsV RX2 35 RX1 yX1_asks wsX1_asks) := goodIn_app (goodIn_of _ (by decide +kernel)) ggX2_askedBy_X1_asks
set_option maxRecDepth 20000 in
theorem ggX2_askedBy_X3_asks : GoodIn wsX2_askedBy wsX3_asks := goodIn_r _ [15, 16, 17, 18, 19, 20, 21] (by decide +kernel) (by decide +kernel)
set_option maxRecDepth 20000 in
theorem gX2_askedBy_X3_asks_u35X3 : GoodIn wsX2_askedBy (va_wsO RX2 35 RX3 "CowsOwed$Clan" ⟨"CowsOwed$Clan", "asks", "(I)I"⟩ yX3_asks wsX3_asks) := goodIn_app (goodIn_of _ (by decide +kernel)) ggX2_askedBy_X3_asks
set_option maxRecDepth 20000 in
theorem ggX2_askedBy_X6_asks : GoodIn wsX2_askedBy wsX6_asks := goodIn_r _ [25, 26, 27, 28, 29] (by decide +kernel) (by decide +kernel)
set_option maxRecDepth 20000 in
theorem gX2_askedBy_X6_asks_u35X6 : GoodIn wsX2_askedBy (va_wsO RX2 35 RX6 "CowsOwed$Clan" ⟨"CowsOwed$Clan", "asks", "(I)I"⟩ yX6_asks wsX6_asks) := goodIn_app (goodIn_of _ (by decide +kernel)) ggX2_askedBy_X6_asks
set_option maxRecDepth 20000 in
theorem ggX2_askedBy_X7_asks : GoodIn wsX2_askedBy wsX7_asks := goodIn_r _ [21] (by decide +kernel) (by decide +kernel)
set_option maxRecDepth 20000 in
theorem gX2_askedBy_X7_asks_u35X7 : GoodIn wsX2_askedBy (va_wsO RX2 35 RX7 "CowsOwed$Clan" ⟨"CowsOwed$Clan", "asks", "(I)I"⟩ yX7_asks wsX7_asks) := goodIn_app (goodIn_of _ (by decide +kernel)) ggX2_askedBy_X7_asks
theorem dX2_askedBy_0 : decode cX2_askedBy 0 = .ok (.aload_n 0, 1) := by decide +kernel
theorem dX2_askedBy_1 : decode cX2_askedBy 1 = .ok (.getfield 27, 3) := by decide +kernel
theorem dX2_askedBy_4 : decode cX2_askedBy 4 = .ok (.iload_n 1, 1) := by decide +kernel
theorem dX2_askedBy_5 : decode cX2_askedBy 5 = .ok (.aaload, 1) := by decide +kernel
theorem dX2_askedBy_6 : decode cX2_askedBy 6 = .ok (.aload_n 0, 1) := by decide +kernel
theorem dX2_askedBy_7 : decode cX2_askedBy 7 = .ok (.getfield 24, 3) := by decide +kernel
theorem dX2_askedBy_10 : decode cX2_askedBy 10 = .ok (.invokevirtual 35, 3) := by decide +kernel
theorem dX2_askedBy_13 : decode cX2_askedBy 13 = .ok (.ireturn, 1) := by decide +kernel
set_option maxRecDepth 20000 in
theorem ggX2_sparedBy_X0_spares : GoodIn wsX2_sparedBy wsX0_spares := goodIn_r _ [9] (by decide +kernel) (by decide +kernel)
set_option maxRecDepth 20000 in
theorem gX2_sparedBy_X0_spares_u41X0 : GoodIn wsX2_sparedBy (va_wsO RX2 41 RX0 "CowsOwed$Clan" ⟨"CowsOwed$Clan", "spares", "(I)I"⟩ yX0_spares wsX0_spares) := goodIn_app (goodIn_of _ (by decide +kernel)) ggX2_sparedBy_X0_spares
set_option maxRecDepth 20000 in
theorem ggX2_sparedBy_X1_spares : GoodIn wsX2_sparedBy wsX1_spares := goodIn_r _ [10] (by decide +kernel) (by decide +kernel)
set_option maxRecDepth 20000 in
theorem gX2_sparedBy_X1_spares : GoodIn wsX2_sparedBy (wsV RX2 41 RX1 yX1_spares wsX1_spares) := goodIn_app (goodIn_of _ (by decide +kernel)) ggX2_sparedBy_X1_spares
set_option maxRecDepth 20000 in
theorem gX2_sparedBy_X1_spares_u41X3 : GoodIn wsX2_sparedBy (va_wsU RX2 41 RX3 "CowsOwed$Clan" ⟨"CowsOwed$Clan", "spares", "(I)I"⟩ yX1_spares wsX1_spares) := goodIn_app (goodIn_of _ (by decide +kernel)) ggX2_sparedBy_X1_spares
set_option maxRecDepth 20000 in
theorem gX2_sparedBy_X1_spares_u41X6 : GoodIn wsX2_sparedBy (va_wsU RX2 41 RX6 "CowsOwed$Clan" ⟨"CowsOwed$Clan", "spares", "(I)I"⟩ yX1_spares wsX1_spares) := goodIn_app (goodIn_of _ (by decide +kernel)) ggX2_sparedBy_X1_spares
set_option maxRecDepth 20000 in
theorem gX2_sparedBy_X1_spares_u41X7 : GoodIn wsX2_sparedBy (va_wsU RX2 41 RX7 "CowsOwed$Clan" ⟨"CowsOwed$Clan", "spares", "(I)I"⟩ yX1_spares wsX1_spares) := goodIn_app (goodIn_of _ (by decide +kernel)) ggX2_sparedBy_X1_spares
theorem dX2_sparedBy_0 : decode cX2_sparedBy 0 = .ok (.aload_n 0, 1) := by decide +kernel
theorem dX2_sparedBy_1 : decode cX2_sparedBy 1 = .ok (.getfield 27, 3) := by decide +kernel
theorem dX2_sparedBy_4 : decode cX2_sparedBy 4 = .ok (.iload_n 1, 1) := by decide +kernel
theorem dX2_sparedBy_5 : decode cX2_sparedBy 5 = .ok (.aaload, 1) := by decide +kernel
theorem dX2_sparedBy_6 : decode cX2_sparedBy 6 = .ok (.aload_n 0, 1) := by decide +kernel
theorem dX2_sparedBy_7 : decode cX2_sparedBy 7 = .ok (.getfield 9, 3) := by decide +kernel
theorem dX2_sparedBy_10 : decode cX2_sparedBy 10 = .ok (.iload_n 1, 1) := by decide +kernel
theorem dX2_sparedBy_11 : decode cX2_sparedBy 11 = .ok (.iaload, 1) := by decide +kernel
theorem dX2_sparedBy_12 : decode cX2_sparedBy 12 = .ok (.invokevirtual 41, 3) := by decide +kernel
theorem dX2_sparedBy_15 : decode cX2_sparedBy 15 = .ok (.ireturn, 1) := by decide +kernel
set_option maxRecDepth 20000 in
theorem ggX2_marry_X1_asks : GoodIn wsX2_marry wsX1_asks := goodIn_r _ [8] (by decide +kernel) (by decide +kernel)
set_option maxRecDepth 20000 in
theorem gX2_marry_X1_asks_u35X0 : GoodIn wsX2_marry (va_wsU RX2 35 RX0 "CowsOwed$Clan" ⟨"CowsOwed$Clan", "asks", "(I)I"⟩ yX1_asks wsX1_asks) := goodIn_app (goodIn_of _ (by decide +kernel)) ggX2_marry_X1_asks
set_option maxRecDepth 20000 in
theorem gX2_marry_X1_asks : GoodIn wsX2_marry (wsV RX2 35 RX1 yX1_asks wsX1_asks) := goodIn_app (goodIn_of _ (by decide +kernel)) ggX2_marry_X1_asks
set_option maxRecDepth 20000 in
theorem ggX2_marry_X3_asks : GoodIn wsX2_marry wsX3_asks := goodIn_r _ [15, 16, 17, 18, 19, 20, 21] (by decide +kernel) (by decide +kernel)
set_option maxRecDepth 20000 in
theorem gX2_marry_X3_asks_u35X3 : GoodIn wsX2_marry (va_wsO RX2 35 RX3 "CowsOwed$Clan" ⟨"CowsOwed$Clan", "asks", "(I)I"⟩ yX3_asks wsX3_asks) := goodIn_app (goodIn_of _ (by decide +kernel)) ggX2_marry_X3_asks
set_option maxRecDepth 20000 in
theorem ggX2_marry_X6_asks : GoodIn wsX2_marry wsX6_asks := goodIn_r _ [25, 26, 27, 28, 29] (by decide +kernel) (by decide +kernel)
set_option maxRecDepth 20000 in
theorem gX2_marry_X6_asks_u35X6 : GoodIn wsX2_marry (va_wsO RX2 35 RX6 "CowsOwed$Clan" ⟨"CowsOwed$Clan", "asks", "(I)I"⟩ yX6_asks wsX6_asks) := goodIn_app (goodIn_of _ (by decide +kernel)) ggX2_marry_X6_asks
set_option maxRecDepth 20000 in
theorem ggX2_marry_X7_asks : GoodIn wsX2_marry wsX7_asks := goodIn_r _ [21] (by decide +kernel) (by decide +kernel)
set_option maxRecDepth 20000 in
theorem gX2_marry_X7_asks_u35X7 : GoodIn wsX2_marry (va_wsO RX2 35 RX7 "CowsOwed$Clan" ⟨"CowsOwed$Clan", "asks", "(I)I"⟩ yX7_asks wsX7_asks) := goodIn_app (goodIn_of _ (by decide +kernel)) ggX2_marry_X7_asks
set_option maxRecDepth 20000 in
theorem ggX2_marry_X2_pay : GoodIn wsX2_marry wsX2_pay := goodIn_r _ [35, 1, 36, 37, 38, 28, 39, 40, 41, 42, 43, 44, 45, 46, 47, 48, 49, 50, 51, 7, 52, 53, 54, 55, 56, 57, 58, 59] (by decide +kernel) (by decide +kernel)
set_option maxRecDepth 20000 in
theorem gX2_marry_X2_pay : GoodIn wsX2_marry (wsV RX2 44 RX2 yX2_pay wsX2_pay) := goodIn_app (goodIn_of _ (by decide +kernel)) ggX2_marry_X2_pay
theorem dX2_marry_0 : decode cX2_marry 0 = .ok (.aload_n 0, 1) := by decide +kernel
theorem dX2_marry_1 : decode cX2_marry 1 = .ok (.getfield 27, 3) := by decide +kernel
theorem dX2_marry_4 : decode cX2_marry 4 = .ok (.iload_n 2, 1) := by decide +kernel
theorem dX2_marry_5 : decode cX2_marry 5 = .ok (.aaload, 1) := by decide +kernel
theorem dX2_marry_6 : decode cX2_marry 6 = .ok (.aload_n 0, 1) := by decide +kernel
theorem dX2_marry_7 : decode cX2_marry 7 = .ok (.getfield 24, 3) := by decide +kernel
theorem dX2_marry_10 : decode cX2_marry 10 = .ok (.invokevirtual 35, 3) := by decide +kernel
theorem dX2_marry_13 : decode cX2_marry 13 = .ok (.istore_n 3, 1) := by decide +kernel
theorem dX2_marry_14 : decode cX2_marry 14 = .ok (.aload_n 0, 1) := by decide +kernel
theorem dX2_marry_15 : decode cX2_marry 15 = .ok (.iload_n 1, 1) := by decide +kernel
theorem dX2_marry_16 : decode cX2_marry 16 = .ok (.iload_n 2, 1) := by decide +kernel
theorem dX2_marry_17 : decode cX2_marry 17 = .ok (.iload_n 3, 1) := by decide +kernel
theorem dX2_marry_18 : decode cX2_marry 18 = .ok (.invokevirtual 44, 3) := by decide +kernel
theorem dX2_marry_21 : decode cX2_marry 21 = .ok (.pop, 1) := by decide +kernel
theorem dX2_marry_22 : decode cX2_marry 22 = .ok (.iload_n 3, 1) := by decide +kernel
theorem dX2_marry_23 : decode cX2_marry 23 = .ok (.ireturn, 1) := by decide +kernel
set_option maxRecDepth 20000 in
theorem ggX2_pay_X0_spares : GoodIn wsX2_pay wsX0_spares := goodIn_r _ [14] (by decide +kernel) (by decide +kernel)
set_option maxRecDepth 20000 in
theorem gX2_pay_X0_spares_u41X0 : GoodIn wsX2_pay (va_wsO RX2 41 RX0 "CowsOwed$Clan" ⟨"CowsOwed$Clan", "spares", "(I)I"⟩ yX0_spares wsX0_spares) := goodIn_app (goodIn_of _ (by decide +kernel)) ggX2_pay_X0_spares
set_option maxRecDepth 20000 in
theorem ggX2_pay_X1_spares : GoodIn wsX2_pay wsX1_spares := goodIn_r _ [15] (by decide +kernel) (by decide +kernel)
set_option maxRecDepth 20000 in
theorem gX2_pay_X1_spares : GoodIn wsX2_pay (wsV RX2 41 RX1 yX1_spares wsX1_spares) := goodIn_app (goodIn_of _ (by decide +kernel)) ggX2_pay_X1_spares
set_option maxRecDepth 20000 in
theorem gX2_pay_X1_spares_u41X3 : GoodIn wsX2_pay (va_wsU RX2 41 RX3 "CowsOwed$Clan" ⟨"CowsOwed$Clan", "spares", "(I)I"⟩ yX1_spares wsX1_spares) := goodIn_app (goodIn_of _ (by decide +kernel)) ggX2_pay_X1_spares
set_option maxRecDepth 20000 in
theorem gX2_pay_X1_spares_u41X6 : GoodIn wsX2_pay (va_wsU RX2 41 RX6 "CowsOwed$Clan" ⟨"CowsOwed$Clan", "spares", "(I)I"⟩ yX1_spares wsX1_spares) := goodIn_app (goodIn_of _ (by decide +kernel)) ggX2_pay_X1_spares
set_option maxRecDepth 20000 in
theorem gX2_pay_X1_spares_u41X7 : GoodIn wsX2_pay (va_wsU RX2 41 RX7 "CowsOwed$Clan" ⟨"CowsOwed$Clan", "spares", "(I)I"⟩ yX1_spares wsX1_spares) := goodIn_app (goodIn_of _ (by decide +kernel)) ggX2_pay_X1_spares
theorem dX2_pay_0 : decode cX2_pay 0 = .ok (.aload_n 0, 1) := by decide +kernel
theorem dX2_pay_1 : decode cX2_pay 1 = .ok (.getfield 27, 3) := by decide +kernel
theorem dX2_pay_4 : decode cX2_pay 4 = .ok (.iload_n 1, 1) := by decide +kernel
theorem dX2_pay_5 : decode cX2_pay 5 = .ok (.aaload, 1) := by decide +kernel
theorem dX2_pay_6 : decode cX2_pay 6 = .ok (.aload_n 0, 1) := by decide +kernel
theorem dX2_pay_7 : decode cX2_pay 7 = .ok (.getfield 9, 3) := by decide +kernel
theorem dX2_pay_10 : decode cX2_pay 10 = .ok (.iload_n 1, 1) := by decide +kernel
theorem dX2_pay_11 : decode cX2_pay 11 = .ok (.iaload, 1) := by decide +kernel
theorem dX2_pay_12 : decode cX2_pay 12 = .ok (.invokevirtual 41, 3) := by decide +kernel
theorem dX2_pay_15 : decode cX2_pay 15 = .ok (.iload_n 3, 1) := by decide +kernel
theorem dX2_pay_16 : decode cX2_pay 16 = .ok (.invokestatic 48, 3) := by decide +kernel
theorem dX2_pay_19 : decode cX2_pay 19 = .ok (.istore 4, 2) := by decide +kernel
theorem dX2_pay_21 : decode cX2_pay 21 = .ok (.aload_n 0, 1) := by decide +kernel
theorem dX2_pay_22 : decode cX2_pay 22 = .ok (.getfield 9, 3) := by decide +kernel
theorem dX2_pay_25 : decode cX2_pay 25 = .ok (.iload_n 1, 1) := by decide +kernel
theorem dX2_pay_26 : decode cX2_pay 26 = .ok (.dup2, 1) := by decide +kernel
theorem dX2_pay_27 : decode cX2_pay 27 = .ok (.iaload, 1) := by decide +kernel
theorem dX2_pay_28 : decode cX2_pay 28 = .ok (.iload 4, 2) := by decide +kernel
theorem dX2_pay_30 : decode cX2_pay 30 = .ok (.isub, 1) := by decide +kernel
theorem dX2_pay_31 : decode cX2_pay 31 = .ok (.iastore, 1) := by decide +kernel
theorem dX2_pay_32 : decode cX2_pay 32 = .ok (.aload_n 0, 1) := by decide +kernel
theorem dX2_pay_33 : decode cX2_pay 33 = .ok (.getfield 9, 3) := by decide +kernel
theorem dX2_pay_36 : decode cX2_pay 36 = .ok (.iload_n 2, 1) := by decide +kernel
theorem dX2_pay_37 : decode cX2_pay 37 = .ok (.dup2, 1) := by decide +kernel
theorem dX2_pay_38 : decode cX2_pay 38 = .ok (.iaload, 1) := by decide +kernel
theorem dX2_pay_39 : decode cX2_pay 39 = .ok (.iload 4, 2) := by decide +kernel
theorem dX2_pay_41 : decode cX2_pay 41 = .ok (.iadd, 1) := by decide +kernel
theorem dX2_pay_42 : decode cX2_pay 42 = .ok (.iastore, 1) := by decide +kernel
theorem dX2_pay_43 : decode cX2_pay 43 = .ok (.aload_n 0, 1) := by decide +kernel
theorem dX2_pay_44 : decode cX2_pay 44 = .ok (.getfield 17, 3) := by decide +kernel
theorem dX2_pay_47 : decode cX2_pay 47 = .ok (.iload_n 1, 1) := by decide +kernel
theorem dX2_pay_48 : decode cX2_pay 48 = .ok (.aaload, 1) := by decide +kernel
theorem dX2_pay_49 : decode cX2_pay 49 = .ok (.iload_n 2, 1) := by decide +kernel
theorem dX2_pay_50 : decode cX2_pay 50 = .ok (.dup2, 1) := by decide +kernel
theorem dX2_pay_51 : decode cX2_pay 51 = .ok (.iaload, 1) := by decide +kernel
theorem dX2_pay_52 : decode cX2_pay 52 = .ok (.iload_n 3, 1) := by decide +kernel
theorem dX2_pay_53 : decode cX2_pay 53 = .ok (.iload 4, 2) := by decide +kernel
theorem dX2_pay_55 : decode cX2_pay 55 = .ok (.isub, 1) := by decide +kernel
theorem dX2_pay_56 : decode cX2_pay 56 = .ok (.iadd, 1) := by decide +kernel
theorem dX2_pay_57 : decode cX2_pay 57 = .ok (.iastore, 1) := by decide +kernel
theorem dX2_pay_58 : decode cX2_pay 58 = .ok (.iload 4, 2) := by decide +kernel
theorem dX2_pay_60 : decode cX2_pay 60 = .ok (.ireturn, 1) := by decide +kernel
set_option maxRecDepth 20000 in
theorem ggX2_passYear_X2_grown : GoodIn wsX2_passYear wsX2_grown := goodIn_r _ [6, 7, 8, 9, 10, 11, 12, 13] (by decide +kernel) (by decide +kernel)
set_option maxRecDepth 20000 in
theorem gX2_passYear_X2_grown : GoodIn wsX2_passYear (va_wsS RX2 54 yX2_grown wsX2_grown) := goodIn_app (goodIn_of _ (by decide +kernel)) ggX2_passYear_X2_grown
set_option maxRecDepth 20000 in
theorem ggX2_passYear_X2_payDebt : GoodIn wsX2_passYear wsX2_payDebt := goodIn_r _ [17, 18, 19, 20, 21, 5, 22, 23, 2, 7, 8, 9, 10, 24, 25, 26, 27, 28, 29, 30, 31, 32, 33, 34, 35, 36, 37, 38, 39, 40, 41, 42, 43] (by decide +kernel) (by decide +kernel)
set_option maxRecDepth 20000 in
theorem gX2_passYear_X2_payDebt : GoodIn wsX2_passYear (wsV RX2 57 RX2 yX2_payDebt wsX2_payDebt) := goodIn_app (goodIn_of _ (by decide +kernel)) ggX2_passYear_X2_payDebt
theorem dX2_passYear_0 : decode cX2_passYear 0 = .ok (.iconst 0, 1) := by decide +kernel
theorem dX2_passYear_1 : decode cX2_passYear 1 = .ok (.istore_n 1, 1) := by decide +kernel
theorem dX2_passYear_2 : decode cX2_passYear 2 = .ok (.iload_n 1, 1) := by decide +kernel
theorem dX2_passYear_3 : decode cX2_passYear 3 = .ok (.aload_n 0, 1) := by decide +kernel
theorem dX2_passYear_4 : decode cX2_passYear 4 = .ok (.getfield 20, 3) := by decide +kernel
theorem dX2_passYear_7 : decode cX2_passYear 7 = .ok (.if_icmp .ge 24, 3) := by decide +kernel
theorem dX2_passYear_10 : decode cX2_passYear 10 = .ok (.aload_n 0, 1) := by decide +kernel
theorem dX2_passYear_11 : decode cX2_passYear 11 = .ok (.getfield 9, 3) := by decide +kernel
theorem dX2_passYear_14 : decode cX2_passYear 14 = .ok (.iload_n 1, 1) := by decide +kernel
theorem dX2_passYear_15 : decode cX2_passYear 15 = .ok (.aload_n 0, 1) := by decide +kernel
theorem dX2_passYear_16 : decode cX2_passYear 16 = .ok (.getfield 9, 3) := by decide +kernel
theorem dX2_passYear_19 : decode cX2_passYear 19 = .ok (.iload_n 1, 1) := by decide +kernel
theorem dX2_passYear_20 : decode cX2_passYear 20 = .ok (.iaload, 1) := by decide +kernel
theorem dX2_passYear_21 : decode cX2_passYear 21 = .ok (.invokestatic 54, 3) := by decide +kernel
theorem dX2_passYear_24 : decode cX2_passYear 24 = .ok (.iastore, 1) := by decide +kernel
theorem dX2_passYear_25 : decode cX2_passYear 25 = .ok (.iinc 1 1, 3) := by decide +kernel
theorem dX2_passYear_28 : decode cX2_passYear 28 = .ok (.goto (-26), 3) := by decide +kernel
theorem dX2_passYear_31 : decode cX2_passYear 31 = .ok (.iconst 0, 1) := by decide +kernel
theorem dX2_passYear_32 : decode cX2_passYear 32 = .ok (.istore_n 1, 1) := by decide +kernel
theorem dX2_passYear_33 : decode cX2_passYear 33 = .ok (.iload_n 1, 1) := by decide +kernel
theorem dX2_passYear_34 : decode cX2_passYear 34 = .ok (.aload_n 0, 1) := by decide +kernel
theorem dX2_passYear_35 : decode cX2_passYear 35 = .ok (.getfield 20, 3) := by decide +kernel
theorem dX2_passYear_38 : decode cX2_passYear 38 = .ok (.if_icmp .ge 31, 3) := by decide +kernel
theorem dX2_passYear_41 : decode cX2_passYear 41 = .ok (.iconst 0, 1) := by decide +kernel
theorem dX2_passYear_42 : decode cX2_passYear 42 = .ok (.istore_n 2, 1) := by decide +kernel
theorem dX2_passYear_43 : decode cX2_passYear 43 = .ok (.iload_n 2, 1) := by decide +kernel
theorem dX2_passYear_44 : decode cX2_passYear 44 = .ok (.aload_n 0, 1) := by decide +kernel
theorem dX2_passYear_45 : decode cX2_passYear 45 = .ok (.getfield 20, 3) := by decide +kernel
theorem dX2_passYear_48 : decode cX2_passYear 48 = .ok (.if_icmp .ge 15, 3) := by decide +kernel
theorem dX2_passYear_51 : decode cX2_passYear 51 = .ok (.aload_n 0, 1) := by decide +kernel
theorem dX2_passYear_52 : decode cX2_passYear 52 = .ok (.iload_n 1, 1) := by decide +kernel
theorem dX2_passYear_53 : decode cX2_passYear 53 = .ok (.iload_n 2, 1) := by decide +kernel
theorem dX2_passYear_54 : decode cX2_passYear 54 = .ok (.invokevirtual 57, 3) := by decide +kernel
theorem dX2_passYear_57 : decode cX2_passYear 57 = .ok (.iinc 2 1, 3) := by decide +kernel
theorem dX2_passYear_60 : decode cX2_passYear 60 = .ok (.goto (-17), 3) := by decide +kernel
theorem dX2_passYear_63 : decode cX2_passYear 63 = .ok (.iinc 1 1, 3) := by decide +kernel
theorem dX2_passYear_66 : decode cX2_passYear 66 = .ok (.goto (-33), 3) := by decide +kernel
theorem dX2_passYear_69 : decode cX2_passYear 69 = .ok (.return_, 1) := by decide +kernel
set_option maxRecDepth 20000 in
theorem ggX2_payDebt_X2_pay : GoodIn wsX2_payDebt wsX2_pay := goodIn_r _ [6, 7, 8, 9, 10, 11, 12, 1, 13, 14, 15, 16, 17, 18, 19, 20, 21, 22, 23, 24, 25, 26, 27, 28, 29, 30, 31, 32] (by decide +kernel) (by decide +kernel)
set_option maxRecDepth 20000 in
theorem gX2_payDebt_X2_pay : GoodIn wsX2_payDebt (wsV RX2 44 RX2 yX2_pay wsX2_pay) := goodIn_app (goodIn_of _ (by decide +kernel)) ggX2_payDebt_X2_pay
theorem dX2_payDebt_0 : decode cX2_payDebt 0 = .ok (.aload_n 0, 1) := by decide +kernel
theorem dX2_payDebt_1 : decode cX2_payDebt 1 = .ok (.getfield 17, 3) := by decide +kernel
theorem dX2_payDebt_4 : decode cX2_payDebt 4 = .ok (.iload_n 1, 1) := by decide +kernel
theorem dX2_payDebt_5 : decode cX2_payDebt 5 = .ok (.aaload, 1) := by decide +kernel
theorem dX2_payDebt_6 : decode cX2_payDebt 6 = .ok (.iload_n 2, 1) := by decide +kernel
theorem dX2_payDebt_7 : decode cX2_payDebt 7 = .ok (.iaload, 1) := by decide +kernel
theorem dX2_payDebt_8 : decode cX2_payDebt 8 = .ok (.istore_n 3, 1) := by decide +kernel
theorem dX2_payDebt_9 : decode cX2_payDebt 9 = .ok (.aload_n 0, 1) := by decide +kernel
theorem dX2_payDebt_10 : decode cX2_payDebt 10 = .ok (.getfield 17, 3) := by decide +kernel
theorem dX2_payDebt_13 : decode cX2_payDebt 13 = .ok (.iload_n 1, 1) := by decide +kernel
theorem dX2_payDebt_14 : decode cX2_payDebt 14 = .ok (.aaload, 1) := by decide +kernel
theorem dX2_payDebt_15 : decode cX2_payDebt 15 = .ok (.iload_n 2, 1) := by decide +kernel
theorem dX2_payDebt_16 : decode cX2_payDebt 16 = .ok (.iconst 0, 1) := by decide +kernel
theorem dX2_payDebt_17 : decode cX2_payDebt 17 = .ok (.iastore, 1) := by decide +kernel
theorem dX2_payDebt_18 : decode cX2_payDebt 18 = .ok (.aload_n 0, 1) := by decide +kernel
theorem dX2_payDebt_19 : decode cX2_payDebt 19 = .ok (.iload_n 1, 1) := by decide +kernel
theorem dX2_payDebt_20 : decode cX2_payDebt 20 = .ok (.iload_n 2, 1) := by decide +kernel
theorem dX2_payDebt_21 : decode cX2_payDebt 21 = .ok (.iload_n 3, 1) := by decide +kernel
theorem dX2_payDebt_22 : decode cX2_payDebt 22 = .ok (.invokevirtual 44, 3) := by decide +kernel
theorem dX2_payDebt_25 : decode cX2_payDebt 25 = .ok (.pop, 1) := by decide +kernel
theorem dX2_payDebt_26 : decode cX2_payDebt 26 = .ok (.return_, 1) := by decide +kernel
theorem dX2_grown_0 : decode cX2_grown 0 = .ok (.iload_n 0, 1) := by decide +kernel
theorem dX2_grown_1 : decode cX2_grown 1 = .ok (.bipush 99, 2) := by decide +kernel
theorem dX2_grown_3 : decode cX2_grown 3 = .ok (.iload_n 0, 1) := by decide +kernel
theorem dX2_grown_4 : decode cX2_grown 4 = .ok (.iload_n 0, 1) := by decide +kernel
theorem dX2_grown_5 : decode cX2_grown 5 = .ok (.iconst 2, 1) := by decide +kernel
theorem dX2_grown_6 : decode cX2_grown 6 = .ok (.idiv, 1) := by decide +kernel
theorem dX2_grown_7 : decode cX2_grown 7 = .ok (.iadd, 1) := by decide +kernel
theorem dX2_grown_8 : decode cX2_grown 8 = .ok (.invokestatic 48, 3) := by decide +kernel
theorem dX2_grown_11 : decode cX2_grown 11 = .ok (.invokestatic 61, 3) := by decide +kernel
theorem dX2_grown_14 : decode cX2_grown 14 = .ok (.ireturn, 1) := by decide +kernel
theorem dX2_owedBy_0 : decode cX2_owedBy 0 = .ok (.iconst 0, 1) := by decide +kernel
theorem dX2_owedBy_1 : decode cX2_owedBy 1 = .ok (.istore_n 2, 1) := by decide +kernel
theorem dX2_owedBy_2 : decode cX2_owedBy 2 = .ok (.iconst 0, 1) := by decide +kernel
theorem dX2_owedBy_3 : decode cX2_owedBy 3 = .ok (.istore_n 3, 1) := by decide +kernel
theorem dX2_owedBy_4 : decode cX2_owedBy 4 = .ok (.iload_n 3, 1) := by decide +kernel
theorem dX2_owedBy_5 : decode cX2_owedBy 5 = .ok (.aload_n 0, 1) := by decide +kernel
theorem dX2_owedBy_6 : decode cX2_owedBy 6 = .ok (.getfield 20, 3) := by decide +kernel
theorem dX2_owedBy_9 : decode cX2_owedBy 9 = .ok (.if_icmp .ge 20, 3) := by decide +kernel
theorem dX2_owedBy_12 : decode cX2_owedBy 12 = .ok (.iload_n 2, 1) := by decide +kernel
theorem dX2_owedBy_13 : decode cX2_owedBy 13 = .ok (.aload_n 0, 1) := by decide +kernel
theorem dX2_owedBy_14 : decode cX2_owedBy 14 = .ok (.getfield 17, 3) := by decide +kernel
theorem dX2_owedBy_17 : decode cX2_owedBy 17 = .ok (.iload_n 1, 1) := by decide +kernel
theorem dX2_owedBy_18 : decode cX2_owedBy 18 = .ok (.aaload, 1) := by decide +kernel
theorem dX2_owedBy_19 : decode cX2_owedBy 19 = .ok (.iload_n 3, 1) := by decide +kernel
theorem dX2_owedBy_20 : decode cX2_owedBy 20 = .ok (.iaload, 1) := by decide +kernel
theorem dX2_owedBy_21 : decode cX2_owedBy 21 = .ok (.iadd, 1) := by decide +kernel
theorem dX2_owedBy_22 : decode cX2_owedBy 22 = .ok (.istore_n 2, 1) := by decide +kernel
theorem dX2_owedBy_23 : decode cX2_owedBy 23 = .ok (.iinc 3 1, 3) := by decide +kernel
theorem dX2_owedBy_26 : decode cX2_owedBy 26 = .ok (.goto (-22), 3) := by decide +kernel
theorem dX2_owedBy_29 : decode cX2_owedBy 29 = .ok (.iload_n 2, 1) := by decide +kernel
theorem dX2_owedBy_30 : decode cX2_owedBy 30 = .ok (.ireturn, 1) := by decide +kernel
theorem dX2_owedTo_0 : decode cX2_owedTo 0 = .ok (.iconst 0, 1) := by decide +kernel
theorem dX2_owedTo_1 : decode cX2_owedTo 1 = .ok (.istore_n 2, 1) := by decide +kernel
theorem dX2_owedTo_2 : decode cX2_owedTo 2 = .ok (.iconst 0, 1) := by decide +kernel
theorem dX2_owedTo_3 : decode cX2_owedTo 3 = .ok (.istore_n 3, 1) := by decide +kernel
theorem dX2_owedTo_4 : decode cX2_owedTo 4 = .ok (.iload_n 3, 1) := by decide +kernel
theorem dX2_owedTo_5 : decode cX2_owedTo 5 = .ok (.aload_n 0, 1) := by decide +kernel
theorem dX2_owedTo_6 : decode cX2_owedTo 6 = .ok (.getfield 20, 3) := by decide +kernel
theorem dX2_owedTo_9 : decode cX2_owedTo 9 = .ok (.if_icmp .ge 20, 3) := by decide +kernel
theorem dX2_owedTo_12 : decode cX2_owedTo 12 = .ok (.iload_n 2, 1) := by decide +kernel
theorem dX2_owedTo_13 : decode cX2_owedTo 13 = .ok (.aload_n 0, 1) := by decide +kernel
theorem dX2_owedTo_14 : decode cX2_owedTo 14 = .ok (.getfield 17, 3) := by decide +kernel
theorem dX2_owedTo_17 : decode cX2_owedTo 17 = .ok (.iload_n 3, 1) := by decide +kernel
theorem dX2_owedTo_18 : decode cX2_owedTo 18 = .ok (.aaload, 1) := by decide +kernel
theorem dX2_owedTo_19 : decode cX2_owedTo 19 = .ok (.iload_n 1, 1) := by decide +kernel
theorem dX2_owedTo_20 : decode cX2_owedTo 20 = .ok (.iaload, 1) := by decide +kernel
theorem dX2_owedTo_21 : decode cX2_owedTo 21 = .ok (.iadd, 1) := by decide +kernel
theorem dX2_owedTo_22 : decode cX2_owedTo 22 = .ok (.istore_n 2, 1) := by decide +kernel
theorem dX2_owedTo_23 : decode cX2_owedTo 23 = .ok (.iinc 3 1, 3) := by decide +kernel
theorem dX2_owedTo_26 : decode cX2_owedTo 26 = .ok (.goto (-22), 3) := by decide +kernel
theorem dX2_owedTo_29 : decode cX2_owedTo 29 = .ok (.iload_n 2, 1) := by decide +kernel
theorem dX2_owedTo_30 : decode cX2_owedTo 30 = .ok (.ireturn, 1) := by decide +kernel
set_option maxRecDepth 20000 in
theorem ggX2_allOwed_X2_owedBy : GoodIn wsX2_allOwed wsX2_owedBy := goodIn_r _ [6, 1, 7, 8, 9, 10, 11, 12] (by decide +kernel) (by decide +kernel)
set_option maxRecDepth 20000 in
theorem gX2_allOwed_X2_owedBy : GoodIn wsX2_allOwed (wsV RX2 64 RX2 yX2_owedBy wsX2_owedBy) := goodIn_app (goodIn_of _ (by decide +kernel)) ggX2_allOwed_X2_owedBy
theorem dX2_allOwed_0 : decode cX2_allOwed 0 = .ok (.iconst 0, 1) := by decide +kernel
theorem dX2_allOwed_1 : decode cX2_allOwed 1 = .ok (.istore_n 1, 1) := by decide +kernel
theorem dX2_allOwed_2 : decode cX2_allOwed 2 = .ok (.iconst 0, 1) := by decide +kernel
theorem dX2_allOwed_3 : decode cX2_allOwed 3 = .ok (.istore_n 2, 1) := by decide +kernel
theorem dX2_allOwed_4 : decode cX2_allOwed 4 = .ok (.iload_n 2, 1) := by decide +kernel
theorem dX2_allOwed_5 : decode cX2_allOwed 5 = .ok (.aload_n 0, 1) := by decide +kernel
theorem dX2_allOwed_6 : decode cX2_allOwed 6 = .ok (.getfield 20, 3) := by decide +kernel
theorem dX2_allOwed_9 : decode cX2_allOwed 9 = .ok (.if_icmp .ge 17, 3) := by decide +kernel
theorem dX2_allOwed_12 : decode cX2_allOwed 12 = .ok (.iload_n 1, 1) := by decide +kernel
theorem dX2_allOwed_13 : decode cX2_allOwed 13 = .ok (.aload_n 0, 1) := by decide +kernel
theorem dX2_allOwed_14 : decode cX2_allOwed 14 = .ok (.iload_n 2, 1) := by decide +kernel
theorem dX2_allOwed_15 : decode cX2_allOwed 15 = .ok (.invokevirtual 64, 3) := by decide +kernel
theorem dX2_allOwed_18 : decode cX2_allOwed 18 = .ok (.iadd, 1) := by decide +kernel
theorem dX2_allOwed_19 : decode cX2_allOwed 19 = .ok (.istore_n 1, 1) := by decide +kernel
theorem dX2_allOwed_20 : decode cX2_allOwed 20 = .ok (.iinc 2 1, 3) := by decide +kernel
theorem dX2_allOwed_23 : decode cX2_allOwed 23 = .ok (.goto (-19), 3) := by decide +kernel
theorem dX2_allOwed_26 : decode cX2_allOwed 26 = .ok (.iload_n 1, 1) := by decide +kernel
theorem dX2_allOwed_27 : decode cX2_allOwed 27 = .ok (.ireturn, 1) := by decide +kernel
theorem dX2_allCows_0 : decode cX2_allCows 0 = .ok (.iconst 0, 1) := by decide +kernel
theorem dX2_allCows_1 : decode cX2_allCows 1 = .ok (.istore_n 1, 1) := by decide +kernel
theorem dX2_allCows_2 : decode cX2_allCows 2 = .ok (.iconst 0, 1) := by decide +kernel
theorem dX2_allCows_3 : decode cX2_allCows 3 = .ok (.istore_n 2, 1) := by decide +kernel
theorem dX2_allCows_4 : decode cX2_allCows 4 = .ok (.iload_n 2, 1) := by decide +kernel
theorem dX2_allCows_5 : decode cX2_allCows 5 = .ok (.aload_n 0, 1) := by decide +kernel
theorem dX2_allCows_6 : decode cX2_allCows 6 = .ok (.getfield 20, 3) := by decide +kernel
theorem dX2_allCows_9 : decode cX2_allCows 9 = .ok (.if_icmp .ge 18, 3) := by decide +kernel
theorem dX2_allCows_12 : decode cX2_allCows 12 = .ok (.iload_n 1, 1) := by decide +kernel
theorem dX2_allCows_13 : decode cX2_allCows 13 = .ok (.aload_n 0, 1) := by decide +kernel
theorem dX2_allCows_14 : decode cX2_allCows 14 = .ok (.getfield 9, 3) := by decide +kernel
theorem dX2_allCows_17 : decode cX2_allCows 17 = .ok (.iload_n 2, 1) := by decide +kernel
theorem dX2_allCows_18 : decode cX2_allCows 18 = .ok (.iaload, 1) := by decide +kernel
theorem dX2_allCows_19 : decode cX2_allCows 19 = .ok (.iadd, 1) := by decide +kernel
theorem dX2_allCows_20 : decode cX2_allCows 20 = .ok (.istore_n 1, 1) := by decide +kernel
theorem dX2_allCows_21 : decode cX2_allCows 21 = .ok (.iinc 2 1, 3) := by decide +kernel
theorem dX2_allCows_24 : decode cX2_allCows 24 = .ok (.goto (-20), 3) := by decide +kernel
theorem dX2_allCows_27 : decode cX2_allCows 27 = .ok (.iload_n 1, 1) := by decide +kernel
theorem dX2_allCows_28 : decode cX2_allCows 28 = .ok (.ireturn, 1) := by decide +kernel
set_option maxRecDepth 20000 in
theorem ggX2_leastLed_X2_owedTo : GoodIn wsX2_leastLed wsX2_owedTo := goodIn_r _ [10, 1, 11, 16, 17, 18, 19, 20] (by decide +kernel) (by decide +kernel)
set_option maxRecDepth 20000 in
theorem gX2_leastLed_X2_owedTo : GoodIn wsX2_leastLed (wsV RX2 67 RX2 yX2_owedTo wsX2_owedTo) := goodIn_app (goodIn_of _ (by decide +kernel)) ggX2_leastLed_X2_owedTo
set_option maxRecDepth 20000 in
theorem ggX2_leastLed_X2_owedBy : GoodIn wsX2_leastLed wsX2_owedBy := goodIn_r _ [15, 1, 11, 16, 17, 18, 19, 20] (by decide +kernel) (by decide +kernel)
set_option maxRecDepth 20000 in
theorem gX2_leastLed_X2_owedBy : GoodIn wsX2_leastLed (wsV RX2 64 RX2 yX2_owedBy wsX2_owedBy) := goodIn_app (goodIn_of _ (by decide +kernel)) ggX2_leastLed_X2_owedBy
theorem dX2_leastLed_0 : decode cX2_leastLed 0 = .ok (.iconst 0, 1) := by decide +kernel
theorem dX2_leastLed_1 : decode cX2_leastLed 1 = .ok (.istore_n 1, 1) := by decide +kernel
theorem dX2_leastLed_2 : decode cX2_leastLed 2 = .ok (.iconst 0, 1) := by decide +kernel
theorem dX2_leastLed_3 : decode cX2_leastLed 3 = .ok (.istore_n 2, 1) := by decide +kernel
theorem dX2_leastLed_4 : decode cX2_leastLed 4 = .ok (.iload_n 2, 1) := by decide +kernel
theorem dX2_leastLed_5 : decode cX2_leastLed 5 = .ok (.aload_n 0, 1) := by decide +kernel
theorem dX2_leastLed_6 : decode cX2_leastLed 6 = .ok (.getfield 20, 3) := by decide +kernel
theorem dX2_leastLed_9 : decode cX2_leastLed 9 = .ok (.if_icmp .ge 27, 3) := by decide +kernel
theorem dX2_leastLed_12 : decode cX2_leastLed 12 = .ok (.iload_n 1, 1) := by decide +kernel
theorem dX2_leastLed_13 : decode cX2_leastLed 13 = .ok (.iconst 0, 1) := by decide +kernel
theorem dX2_leastLed_14 : decode cX2_leastLed 14 = .ok (.aload_n 0, 1) := by decide +kernel
theorem dX2_leastLed_15 : decode cX2_leastLed 15 = .ok (.iload_n 2, 1) := by decide +kernel
theorem dX2_leastLed_16 : decode cX2_leastLed 16 = .ok (.invokevirtual 67, 3) := by decide +kernel
theorem dX2_leastLed_19 : decode cX2_leastLed 19 = .ok (.aload_n 0, 1) := by decide +kernel
theorem dX2_leastLed_20 : decode cX2_leastLed 20 = .ok (.iload_n 2, 1) := by decide +kernel
theorem dX2_leastLed_21 : decode cX2_leastLed 21 = .ok (.invokevirtual 64, 3) := by decide +kernel
theorem dX2_leastLed_24 : decode cX2_leastLed 24 = .ok (.isub, 1) := by decide +kernel
theorem dX2_leastLed_25 : decode cX2_leastLed 25 = .ok (.invokestatic 61, 3) := by decide +kernel
theorem dX2_leastLed_28 : decode cX2_leastLed 28 = .ok (.iadd, 1) := by decide +kernel
theorem dX2_leastLed_29 : decode cX2_leastLed 29 = .ok (.istore_n 1, 1) := by decide +kernel
theorem dX2_leastLed_30 : decode cX2_leastLed 30 = .ok (.iinc 2 1, 3) := by decide +kernel
theorem dX2_leastLed_33 : decode cX2_leastLed 33 = .ok (.goto (-29), 3) := by decide +kernel
theorem dX2_leastLed_36 : decode cX2_leastLed 36 = .ok (.iload_n 1, 1) := by decide +kernel
theorem dX2_leastLed_37 : decode cX2_leastLed 37 = .ok (.ireturn, 1) := by decide +kernel
set_option maxRecDepth 20000 in
theorem ggX2_live_X2_nextSeed : GoodIn wsX2_live wsX2_nextSeed := goodIn_r _ [4, 5, 6, 7] (by decide +kernel) (by decide +kernel)
set_option maxRecDepth 20000 in
theorem gX2_live_X2_nextSeed : GoodIn wsX2_live (va_wsS RX2 70 yX2_nextSeed wsX2_nextSeed) := goodIn_app (goodIn_of _ (by decide +kernel)) ggX2_live_X2_nextSeed
set_option maxRecDepth 20000 in
theorem ggX2_live_X2_drawn : GoodIn wsX2_live wsX2_drawn := goodIn_r _ [11, 12, 13, 91, 92, 93, 94, 95] (by decide +kernel) (by decide +kernel)
set_option maxRecDepth 20000 in
theorem gX2_live_X2_drawn : GoodIn wsX2_live (wsV RX2 73 RX2 yX2_drawn wsX2_drawn) := goodIn_app (goodIn_of _ (by decide +kernel)) ggX2_live_X2_drawn
set_option maxRecDepth 20000 in
theorem ggX2_live_X2_knowsCouple : GoodIn wsX2_live wsX2_knowsCouple := goodIn_r _ [17, 18, 19, 20, 3, 21, 12, 91, 92, 93, 94, 95] (by decide +kernel) (by decide +kernel)
set_option maxRecDepth 20000 in
theorem gX2_live_X2_knowsCouple : GoodIn wsX2_live (wsV RX2 76 RX2 yX2_knowsCouple wsX2_knowsCouple) := goodIn_app (goodIn_of _ (by decide +kernel)) ggX2_live_X2_knowsCouple
set_option maxRecDepth 20000 in
theorem ggX2_live_X2_marry : GoodIn wsX2_live wsX2_marry := goodIn_r _ [25, 26, 27, 28, 29, 30, 31, 32, 33, 34, 35, 36, 37, 38, 39, 40, 41, 42, 43, 44, 45, 46, 47, 48, 49, 50, 51, 52, 53, 54, 55, 56, 57, 58, 3, 59, 60, 61, 62, 63, 64, 65, 66, 67, 68, 69, 70, 71, 72, 73, 74, 75, 76, 77, 78, 91, 92, 93, 94, 95] (by decide +kernel) (by decide +kernel)
set_option maxRecDepth 20000 in
theorem gX2_live_X2_marry : GoodIn wsX2_live (wsV RX2 80 RX2 yX2_marry wsX2_marry) := goodIn_app (goodIn_of _ (by decide +kernel)) ggX2_live_X2_marry
set_option maxRecDepth 20000 in
theorem ggX2_live_X2_passYear : GoodIn wsX2_live wsX2_passYear := goodIn_r _ [82, 12, 60, 83, 84, 3, 85, 61, 62, 53, 63, 86, 52, 54, 87, 88, 89, 90, 64, 56, 57, 58, 59, 26, 65, 66, 67, 68, 69, 70, 71, 72, 73, 74, 75, 32, 76, 77, 78, 91, 92, 93, 94, 95] (by decide +kernel) (by decide +kernel)
set_option maxRecDepth 20000 in
theorem gX2_live_X2_passYear : GoodIn wsX2_live (wsV RX2 83 RX2 yX2_passYear wsX2_passYear) := goodIn_app (goodIn_of _ (by decide +kernel)) ggX2_live_X2_passYear
theorem dX2_live_0 : decode cX2_live 0 = .ok (.iload_n 2, 1) := by decide +kernel
theorem dX2_live_1 : decode cX2_live 1 = .ok (.istore_n 3, 1) := by decide +kernel
theorem dX2_live_2 : decode cX2_live 2 = .ok (.iconst 0, 1) := by decide +kernel
theorem dX2_live_3 : decode cX2_live 3 = .ok (.istore 4, 2) := by decide +kernel
theorem dX2_live_5 : decode cX2_live 5 = .ok (.iload 4, 2) := by decide +kernel
theorem dX2_live_7 : decode cX2_live 7 = .ok (.iload_n 1, 1) := by decide +kernel
theorem dX2_live_8 : decode cX2_live 8 = .ok (.if_icmp .ge 57, 3) := by decide +kernel
theorem dX2_live_11 : decode cX2_live 11 = .ok (.iload_n 3, 1) := by decide +kernel
theorem dX2_live_12 : decode cX2_live 12 = .ok (.invokestatic 70, 3) := by decide +kernel
theorem dX2_live_15 : decode cX2_live 15 = .ok (.istore_n 3, 1) := by decide +kernel
theorem dX2_live_16 : decode cX2_live 16 = .ok (.aload_n 0, 1) := by decide +kernel
theorem dX2_live_17 : decode cX2_live 17 = .ok (.iload_n 3, 1) := by decide +kernel
theorem dX2_live_18 : decode cX2_live 18 = .ok (.invokevirtual 73, 3) := by decide +kernel
theorem dX2_live_21 : decode cX2_live 21 = .ok (.istore 5, 2) := by decide +kernel
theorem dX2_live_23 : decode cX2_live 23 = .ok (.iload_n 3, 1) := by decide +kernel
theorem dX2_live_24 : decode cX2_live 24 = .ok (.invokestatic 70, 3) := by decide +kernel
theorem dX2_live_27 : decode cX2_live 27 = .ok (.istore_n 3, 1) := by decide +kernel
theorem dX2_live_28 : decode cX2_live 28 = .ok (.aload_n 0, 1) := by decide +kernel
theorem dX2_live_29 : decode cX2_live 29 = .ok (.iload_n 3, 1) := by decide +kernel
theorem dX2_live_30 : decode cX2_live 30 = .ok (.invokevirtual 73, 3) := by decide +kernel
theorem dX2_live_33 : decode cX2_live 33 = .ok (.istore 6, 2) := by decide +kernel
theorem dX2_live_35 : decode cX2_live 35 = .ok (.aload_n 0, 1) := by decide +kernel
theorem dX2_live_36 : decode cX2_live 36 = .ok (.iload 5, 2) := by decide +kernel
theorem dX2_live_38 : decode cX2_live 38 = .ok (.iload 6, 2) := by decide +kernel
theorem dX2_live_40 : decode cX2_live 40 = .ok (.invokevirtual 76, 3) := by decide +kernel
theorem dX2_live_43 : decode cX2_live 43 = .ok (.ifCond .eq 12, 3) := by decide +kernel
theorem dX2_live_46 : decode cX2_live 46 = .ok (.aload_n 0, 1) := by decide +kernel
theorem dX2_live_47 : decode cX2_live 47 = .ok (.iload 5, 2) := by decide +kernel
theorem dX2_live_49 : decode cX2_live 49 = .ok (.iload 6, 2) := by decide +kernel
theorem dX2_live_51 : decode cX2_live 51 = .ok (.invokevirtual 80, 3) := by decide +kernel
theorem dX2_live_54 : decode cX2_live 54 = .ok (.pop, 1) := by decide +kernel
theorem dX2_live_55 : decode cX2_live 55 = .ok (.aload_n 0, 1) := by decide +kernel
theorem dX2_live_56 : decode cX2_live 56 = .ok (.invokevirtual 83, 3) := by decide +kernel
theorem dX2_live_59 : decode cX2_live 59 = .ok (.iinc 4 1, 3) := by decide +kernel
theorem dX2_live_62 : decode cX2_live 62 = .ok (.goto (-57), 3) := by decide +kernel
theorem dX2_live_65 : decode cX2_live 65 = .ok (.iload_n 3, 1) := by decide +kernel
theorem dX2_live_66 : decode cX2_live 66 = .ok (.ireturn, 1) := by decide +kernel
theorem dX2_nextSeed_0 : decode cX2_nextSeed 0 = .ok (.ldc2_w 86, 3) := by decide +kernel
theorem dX2_nextSeed_3 : decode cX2_nextSeed 3 = .ok (.iload_n 0, 1) := by decide +kernel
theorem dX2_nextSeed_4 : decode cX2_nextSeed 4 = .ok (.i2l, 1) := by decide +kernel
theorem dX2_nextSeed_5 : decode cX2_nextSeed 5 = .ok (.lmul, 1) := by decide +kernel
theorem dX2_nextSeed_6 : decode cX2_nextSeed 6 = .ok (.ldc2_w 88, 3) := by decide +kernel
theorem dX2_nextSeed_9 : decode cX2_nextSeed 9 = .ok (.ladd, 1) := by decide +kernel
theorem dX2_nextSeed_10 : decode cX2_nextSeed 10 = .ok (.ldc2_w 90, 3) := by decide +kernel
theorem dX2_nextSeed_13 : decode cX2_nextSeed 13 = .ok (.lrem, 1) := by decide +kernel
theorem dX2_nextSeed_14 : decode cX2_nextSeed 14 = .ok (.l2i, 1) := by decide +kernel
theorem dX2_nextSeed_15 : decode cX2_nextSeed 15 = .ok (.ireturn, 1) := by decide +kernel
theorem dX2_drawn_0 : decode cX2_drawn 0 = .ok (.aload_n 0, 1) := by decide +kernel
theorem dX2_drawn_1 : decode cX2_drawn 1 = .ok (.getfield 20, 3) := by decide +kernel
theorem dX2_drawn_4 : decode cX2_drawn 4 = .ok (.iconst 1, 1) := by decide +kernel
theorem dX2_drawn_5 : decode cX2_drawn 5 = .ok (.if_icmp .ge 7, 3) := by decide +kernel
theorem dX2_drawn_8 : decode cX2_drawn 8 = .ok (.iconst (-1), 1) := by decide +kernel
theorem dX2_drawn_9 : decode cX2_drawn 9 = .ok (.goto 12, 3) := by decide +kernel
theorem dX2_drawn_12 : decode cX2_drawn 12 = .ok (.iload_n 1, 1) := by decide +kernel
theorem dX2_drawn_13 : decode cX2_drawn 13 = .ok (.ldc 92, 2) := by decide +kernel
theorem dX2_drawn_15 : decode cX2_drawn 15 = .ok (.idiv, 1) := by decide +kernel
theorem dX2_drawn_16 : decode cX2_drawn 16 = .ok (.aload_n 0, 1) := by decide +kernel
theorem dX2_drawn_17 : decode cX2_drawn 17 = .ok (.getfield 20, 3) := by decide +kernel
theorem dX2_drawn_20 : decode cX2_drawn 20 = .ok (.irem, 1) := by decide +kernel
theorem dX2_drawn_21 : decode cX2_drawn 21 = .ok (.ireturn, 1) := by decide +kernel
set_option maxRecDepth 20000 in
theorem ggX3_init_X7_init : GoodIn wsX3_init wsX7_init := goodIn_r _ [3, 4, 5, 6, 7, 8, 9] (by decide +kernel) (by decide +kernel)
set_option maxRecDepth 20000 in
theorem gX3_init_X7_init_n3 : GoodIn wsX3_init (wsX7_init) := ggX3_init_X7_init
theorem dX3_init_0 : decode cX3_init 0 = .ok (.aload_n 0, 1) := by decide +kernel
theorem dX3_init_1 : decode cX3_init 1 = .ok (.invokespecial 3, 3) := by decide +kernel
theorem dX3_init_4 : decode cX3_init 4 = .ok (.return_, 1) := by decide +kernel
theorem dX3_number_0 : decode cX3_number 0 = .ok (.iconst 4, 1) := by decide +kernel
theorem dX3_number_1 : decode cX3_number 1 = .ok (.ireturn, 1) := by decide +kernel
set_option maxRecDepth 20000 in
theorem ggX3_asks_X7_asks : GoodIn wsX3_asks wsX7_asks := goodIn_r _ [6] (by decide +kernel) (by decide +kernel)
set_option maxRecDepth 20000 in
theorem gX3_asks_X7_asks_s9 : GoodIn wsX3_asks (va_wsSU RX3 9 yX7_asks wsX7_asks) := goodIn_app (goodIn_of _ (by decide +kernel)) ggX3_asks_X7_asks
theorem dX3_asks_0 : decode cX3_asks 0 = .ok (.iconst 2, 1) := by decide +kernel
theorem dX3_asks_1 : decode cX3_asks 1 = .ok (.aload_n 0, 1) := by decide +kernel
theorem dX3_asks_2 : decode cX3_asks 2 = .ok (.iload_n 1, 1) := by decide +kernel
theorem dX3_asks_3 : decode cX3_asks 3 = .ok (.invokespecial 9, 3) := by decide +kernel
theorem dX3_asks_6 : decode cX3_asks 6 = .ok (.imul, 1) := by decide +kernel
theorem dX3_asks_7 : decode cX3_asks 7 = .ok (.ireturn, 1) := by decide +kernel
theorem dX4_init_0 : decode cX4_init 0 = .ok (.aload_n 0, 1) := by decide +kernel
theorem dX4_init_1 : decode cX4_init 1 = .ok (.invokespecial 3, 3) := by decide +kernel
theorem dX4_init_4 : decode cX4_init 4 = .ok (.aload_n 0, 1) := by decide +kernel
theorem dX4_init_5 : decode cX4_init 5 = .ok (.bipush 16, 2) := by decide +kernel
theorem dX4_init_7 : decode cX4_init 7 = .ok (.newarray .int, 2) := by decide +kernel
theorem dX4_init_9 : decode cX4_init 9 = .ok (.putfield 9, 3) := by decide +kernel
theorem dX4_init_12 : decode cX4_init 12 = .ok (.aload_n 0, 1) := by decide +kernel
theorem dX4_init_13 : decode cX4_init 13 = .ok (.iconst 0, 1) := by decide +kernel
theorem dX4_init_14 : decode cX4_init 14 = .ok (.putfield 15, 3) := by decide +kernel
theorem dX4_init_17 : decode cX4_init 17 = .ok (.return_, 1) := by decide +kernel
theorem dX4_put_0 : decode cX4_put 0 = .ok (.aload_n 0, 1) := by decide +kernel
theorem dX4_put_1 : decode cX4_put 1 = .ok (.getfield 9, 3) := by decide +kernel
theorem dX4_put_4 : decode cX4_put 4 = .ok (.aload_n 0, 1) := by decide +kernel
theorem dX4_put_5 : decode cX4_put 5 = .ok (.getfield 15, 3) := by decide +kernel
theorem dX4_put_8 : decode cX4_put 8 = .ok (.iload_n 1, 1) := by decide +kernel
theorem dX4_put_9 : decode cX4_put 9 = .ok (.iastore, 1) := by decide +kernel
theorem dX4_put_10 : decode cX4_put 10 = .ok (.aload_n 0, 1) := by decide +kernel
theorem dX4_put_11 : decode cX4_put 11 = .ok (.dup, 1) := by decide +kernel
theorem dX4_put_12 : decode cX4_put 12 = .ok (.getfield 15, 3) := by decide +kernel
theorem dX4_put_15 : decode cX4_put 15 = .ok (.iconst 1, 1) := by decide +kernel
theorem dX4_put_16 : decode cX4_put 16 = .ok (.iadd, 1) := by decide +kernel
theorem dX4_put_17 : decode cX4_put 17 = .ok (.putfield 15, 3) := by decide +kernel
theorem dX4_put_20 : decode cX4_put 20 = .ok (.aload_n 0, 1) := by decide +kernel
theorem dX4_put_21 : decode cX4_put 21 = .ok (.getfield 15, 3) := by decide +kernel
theorem dX4_put_24 : decode cX4_put 24 = .ok (.ireturn, 1) := by decide +kernel
set_option maxRecDepth 20000 in
theorem ggX4_firstFault_X4_behind : GoodIn wsX4_firstFault wsX4_behind := goodIn_r _ [6, 7, 8, 5, 9, 10, 11, 12, 13, 14, 15, 16, 17, 18, 19, 20, 21, 22, 23, 24, 25, 26, 27, 28, 29, 30, 31, 32, 33, 34, 35, 36, 37, 38, 39, 40, 41, 42, 43, 44, 45, 46, 47, 48, 49, 50, 51, 52, 53, 54, 55, 56, 57, 58, 59, 60, 61, 62, 63, 64, 65, 66, 67, 68, 69, 70, 71, 72, 73, 74, 75, 76, 77, 78, 79, 80, 81, 82, 83, 84, 85, 86, 87, 88, 89, 90, 91, 92, 93, 94, 95, 96, 97, 98, 99, 100, 101] (by decide +kernel) (by decide +kernel)
set_option maxRecDepth 20000 in
theorem gX4_firstFault_X4_behind : GoodIn wsX4_firstFault (va_wsS RX4 19 yX4_behind wsX4_behind) := goodIn_app (goodIn_of _ (by decide +kernel)) ggX4_firstFault_X4_behind
theorem dX4_firstFault_0 : decode cX4_firstFault 0 = .ok (.iconst 0, 1) := by decide +kernel
theorem dX4_firstFault_1 : decode cX4_firstFault 1 = .ok (.istore_n 1, 1) := by decide +kernel
theorem dX4_firstFault_2 : decode cX4_firstFault 2 = .ok (.iconst 0, 1) := by decide +kernel
theorem dX4_firstFault_3 : decode cX4_firstFault 3 = .ok (.istore_n 2, 1) := by decide +kernel
theorem dX4_firstFault_4 : decode cX4_firstFault 4 = .ok (.iload_n 2, 1) := by decide +kernel
theorem dX4_firstFault_5 : decode cX4_firstFault 5 = .ok (.aload_n 0, 1) := by decide +kernel
theorem dX4_firstFault_6 : decode cX4_firstFault 6 = .ok (.getfield 15, 3) := by decide +kernel
theorem dX4_firstFault_9 : decode cX4_firstFault 9 = .ok (.if_icmp .ge 32, 3) := by decide +kernel
theorem dX4_firstFault_12 : decode cX4_firstFault 12 = .ok (.iload_n 1, 1) := by decide +kernel
theorem dX4_firstFault_13 : decode cX4_firstFault 13 = .ok (.aload_n 0, 1) := by decide +kernel
theorem dX4_firstFault_14 : decode cX4_firstFault 14 = .ok (.getfield 9, 3) := by decide +kernel
theorem dX4_firstFault_17 : decode cX4_firstFault 17 = .ok (.iload_n 2, 1) := by decide +kernel
theorem dX4_firstFault_18 : decode cX4_firstFault 18 = .ok (.iaload, 1) := by decide +kernel
theorem dX4_firstFault_19 : decode cX4_firstFault 19 = .ok (.iload_n 2, 1) := by decide +kernel
theorem dX4_firstFault_20 : decode cX4_firstFault 20 = .ok (.iconst 1, 1) := by decide +kernel
theorem dX4_firstFault_21 : decode cX4_firstFault 21 = .ok (.iadd, 1) := by decide +kernel
theorem dX4_firstFault_22 : decode cX4_firstFault 22 = .ok (.iconst 3, 1) := by decide +kernel
theorem dX4_firstFault_23 : decode cX4_firstFault 23 = .ok (.idiv, 1) := by decide +kernel
theorem dX4_firstFault_24 : decode cX4_firstFault 24 = .ok (.invokestatic 19, 3) := by decide +kernel
theorem dX4_firstFault_27 : decode cX4_firstFault 27 = .ok (.istore_n 1, 1) := by decide +kernel
theorem dX4_firstFault_28 : decode cX4_firstFault 28 = .ok (.iload_n 1, 1) := by decide +kernel
theorem dX4_firstFault_29 : decode cX4_firstFault 29 = .ok (.iconst 5, 1) := by decide +kernel
theorem dX4_firstFault_30 : decode cX4_firstFault 30 = .ok (.if_icmp .ne 5, 3) := by decide +kernel
theorem dX4_firstFault_33 : decode cX4_firstFault 33 = .ok (.iload_n 2, 1) := by decide +kernel
theorem dX4_firstFault_34 : decode cX4_firstFault 34 = .ok (.ireturn, 1) := by decide +kernel
theorem dX4_firstFault_35 : decode cX4_firstFault 35 = .ok (.iinc 2 1, 3) := by decide +kernel
theorem dX4_firstFault_38 : decode cX4_firstFault 38 = .ok (.goto (-34), 3) := by decide +kernel
theorem dX4_firstFault_41 : decode cX4_firstFault 41 = .ok (.aload_n 0, 1) := by decide +kernel
theorem dX4_firstFault_42 : decode cX4_firstFault 42 = .ok (.getfield 15, 3) := by decide +kernel
theorem dX4_firstFault_45 : decode cX4_firstFault 45 = .ok (.ireturn, 1) := by decide +kernel
set_option maxRecDepth 20000 in
theorem ggX4_behind_X4_kindOfLetter : GoodIn wsX4_behind wsX4_kindOfLetter := goodIn_r _ [4, 5, 6, 7, 8, 9, 10, 11, 12, 13, 14, 15, 16, 17, 18, 19, 20, 21, 22, 23, 24, 25, 26, 27, 28, 29, 30, 31, 32, 33, 34, 35, 36, 37, 38, 39, 40, 41, 42, 43, 44, 45, 46, 47, 48, 49, 50, 51, 52, 53, 54, 55, 56, 57, 58, 59, 60, 61, 62, 63, 64, 65, 66, 67, 68, 69, 70, 71, 72, 73, 74, 75, 76, 77, 78, 79, 80, 81, 82, 83, 84, 85, 86, 87, 88, 89, 90, 91, 92, 93] (by decide +kernel) (by decide +kernel)
set_option maxRecDepth 20000 in
theorem gX4_behind_X4_kindOfLetter : GoodIn wsX4_behind (va_wsS RX4 23 yX4_kindOfLetter wsX4_kindOfLetter) := goodIn_app (goodIn_of _ (by decide +kernel)) ggX4_behind_X4_kindOfLetter
set_option maxRecDepth 20000 in
theorem ggX4_behind_X4_behindMark : GoodIn wsX4_behind wsX4_behindMark := goodIn_r _ [96] (by decide +kernel) (by decide +kernel)
set_option maxRecDepth 20000 in
theorem gX4_behind_X4_behindMark : GoodIn wsX4_behind (va_wsS RX4 27 yX4_behindMark wsX4_behindMark) := goodIn_app (goodIn_of _ (by decide +kernel)) ggX4_behind_X4_behindMark
theorem dX4_behind_0 : decode cX4_behind 0 = .ok (.iload_n 0, 1) := by decide +kernel
theorem dX4_behind_1 : decode cX4_behind 1 = .ok (.tableswitch 87 0 3 #[31, 45, 63, 69], 31) := by decide +kernel
theorem dX4_behind_32 : decode cX4_behind 32 = .ok (.iload_n 1, 1) := by decide +kernel
theorem dX4_behind_33 : decode cX4_behind 33 = .ok (.invokestatic 23, 3) := by decide +kernel
theorem dX4_behind_36 : decode cX4_behind 36 = .ok (.iconst (-1), 1) := by decide +kernel
theorem dX4_behind_37 : decode cX4_behind 37 = .ok (.if_icmp .ne 7, 3) := by decide +kernel
theorem dX4_behind_40 : decode cX4_behind 40 = .ok (.iconst 5, 1) := by decide +kernel
theorem dX4_behind_41 : decode cX4_behind 41 = .ok (.goto 4, 3) := by decide +kernel
theorem dX4_behind_44 : decode cX4_behind 44 = .ok (.iconst 1, 1) := by decide +kernel
theorem dX4_behind_45 : decode cX4_behind 45 = .ok (.ireturn, 1) := by decide +kernel
theorem dX4_behind_46 : decode cX4_behind 46 = .ok (.iload_n 1, 1) := by decide +kernel
theorem dX4_behind_47 : decode cX4_behind 47 = .ok (.bipush 48, 2) := by decide +kernel
theorem dX4_behind_49 : decode cX4_behind 49 = .ok (.if_icmp .lt 13, 3) := by decide +kernel
theorem dX4_behind_52 : decode cX4_behind 52 = .ok (.iload_n 1, 1) := by decide +kernel
theorem dX4_behind_53 : decode cX4_behind 53 = .ok (.bipush 57, 2) := by decide +kernel
theorem dX4_behind_55 : decode cX4_behind 55 = .ok (.if_icmp .gt 7, 3) := by decide +kernel
theorem dX4_behind_58 : decode cX4_behind 58 = .ok (.iconst 2, 1) := by decide +kernel
theorem dX4_behind_59 : decode cX4_behind 59 = .ok (.goto 4, 3) := by decide +kernel
theorem dX4_behind_62 : decode cX4_behind 62 = .ok (.iconst 5, 1) := by decide +kernel
theorem dX4_behind_63 : decode cX4_behind 63 = .ok (.ireturn, 1) := by decide +kernel
theorem dX4_behind_64 : decode cX4_behind 64 = .ok (.iload_n 1, 1) := by decide +kernel
theorem dX4_behind_65 : decode cX4_behind 65 = .ok (.iload_n 2, 1) := by decide +kernel
theorem dX4_behind_66 : decode cX4_behind 66 = .ok (.invokestatic 27, 3) := by decide +kernel
theorem dX4_behind_69 : decode cX4_behind 69 = .ok (.ireturn, 1) := by decide +kernel
theorem dX4_behind_70 : decode cX4_behind 70 = .ok (.iload_n 1, 1) := by decide +kernel
theorem dX4_behind_71 : decode cX4_behind 71 = .ok (.bipush 49, 2) := by decide +kernel
theorem dX4_behind_73 : decode cX4_behind 73 = .ok (.if_icmp .lt 13, 3) := by decide +kernel
theorem dX4_behind_76 : decode cX4_behind 76 = .ok (.iload_n 1, 1) := by decide +kernel
theorem dX4_behind_77 : decode cX4_behind 77 = .ok (.bipush 53, 2) := by decide +kernel
theorem dX4_behind_79 : decode cX4_behind 79 = .ok (.if_icmp .gt 7, 3) := by decide +kernel
theorem dX4_behind_82 : decode cX4_behind 82 = .ok (.iconst 4, 1) := by decide +kernel
theorem dX4_behind_83 : decode cX4_behind 83 = .ok (.goto 4, 3) := by decide +kernel
theorem dX4_behind_86 : decode cX4_behind 86 = .ok (.iconst 5, 1) := by decide +kernel
theorem dX4_behind_87 : decode cX4_behind 87 = .ok (.ireturn, 1) := by decide +kernel
theorem dX4_behind_88 : decode cX4_behind 88 = .ok (.iconst 5, 1) := by decide +kernel
theorem dX4_behind_89 : decode cX4_behind 89 = .ok (.ireturn, 1) := by decide +kernel
theorem dX4_behindMark_0 : decode cX4_behindMark 0 = .ok (.iload_n 0, 1) := by decide +kernel
theorem dX4_behindMark_1 : decode cX4_behindMark 1 = .ok (.bipush 44, 2) := by decide +kernel
theorem dX4_behindMark_3 : decode cX4_behindMark 3 = .ok (.if_icmp .ne 10, 3) := by decide +kernel
theorem dX4_behindMark_6 : decode cX4_behindMark 6 = .ok (.iload_n 1, 1) := by decide +kernel
theorem dX4_behindMark_7 : decode cX4_behindMark 7 = .ok (.iconst 4, 1) := by decide +kernel
theorem dX4_behindMark_8 : decode cX4_behindMark 8 = .ok (.if_icmp .ge 5, 3) := by decide +kernel
theorem dX4_behindMark_11 : decode cX4_behindMark 11 = .ok (.iconst 0, 1) := by decide +kernel
theorem dX4_behindMark_12 : decode cX4_behindMark 12 = .ok (.ireturn, 1) := by decide +kernel
theorem dX4_behindMark_13 : decode cX4_behindMark 13 = .ok (.iload_n 0, 1) := by decide +kernel
theorem dX4_behindMark_14 : decode cX4_behindMark 14 = .ok (.bipush 59, 2) := by decide +kernel
theorem dX4_behindMark_16 : decode cX4_behindMark 16 = .ok (.if_icmp .ne 10, 3) := by decide +kernel
theorem dX4_behindMark_19 : decode cX4_behindMark 19 = .ok (.iload_n 1, 1) := by decide +kernel
theorem dX4_behindMark_20 : decode cX4_behindMark 20 = .ok (.iconst 2, 1) := by decide +kernel
theorem dX4_behindMark_21 : decode cX4_behindMark 21 = .ok (.if_icmp .lt 5, 3) := by decide +kernel
theorem dX4_behindMark_24 : decode cX4_behindMark 24 = .ok (.iconst 3, 1) := by decide +kernel
theorem dX4_behindMark_25 : decode cX4_behindMark 25 = .ok (.ireturn, 1) := by decide +kernel
theorem dX4_behindMark_26 : decode cX4_behindMark 26 = .ok (.iconst 5, 1) := by decide +kernel
theorem dX4_behindMark_27 : decode cX4_behindMark 27 = .ok (.ireturn, 1) := by decide +kernel
set_option maxRecDepth 20000 in
theorem ggX4_kindOfLetter_J0_indexOf_0f7a4 : GoodIn wsX4_kindOfLetter wsJ0_indexOf_0f7a4 := goodIn_r _ [5, 6, 7, 8, 4, 9, 10, 11, 12, 13, 14, 15, 16, 17, 18, 19, 20, 21, 22, 23, 24, 25, 26, 27, 28, 29, 30, 31, 32, 33, 34, 35, 36, 37, 38, 39, 40, 41, 42, 43, 44, 45, 46, 47, 48, 49, 50, 51, 52, 53, 54, 55, 56, 57, 58, 59, 60, 61, 62, 63, 64, 65, 66, 67, 68, 69, 70, 71, 72, 73, 74, 75, 76, 77, 78, 79, 80, 81, 82, 83, 84, 85, 86, 87, 88, 89] (by decide +kernel) (by decide +kernel)
set_option maxRecDepth 20000 in
theorem gX4_kindOfLetter_J0_indexOf_0f7a4 : GoodIn wsX4_kindOfLetter (wsV RX4 33 RJ0 yJ0_indexOf_0f7a4 wsJ0_indexOf_0f7a4) := goodIn_app (goodIn_of _ (by decide +kernel)) ggX4_kindOfLetter_J0_indexOf_0f7a4
theorem dX4_kindOfLetter_0 : decode cX4_kindOfLetter 0 = .ok (.ldc 31, 2) := by decide +kernel
theorem dX4_kindOfLetter_2 : decode cX4_kindOfLetter 2 = .ok (.iload_n 0, 1) := by decide +kernel
theorem dX4_kindOfLetter_3 : decode cX4_kindOfLetter 3 = .ok (.i2c, 1) := by decide +kernel
theorem dX4_kindOfLetter_4 : decode cX4_kindOfLetter 4 = .ok (.invokevirtual 33, 3) := by decide +kernel
theorem dX4_kindOfLetter_7 : decode cX4_kindOfLetter 7 = .ok (.ireturn, 1) := by decide +kernel
set_option maxRecDepth 20000 in
theorem ggX4_isHills_X4_firstFault : GoodIn wsX4_isHills wsX4_firstFault := goodIn_r _ [7, 1, 2, 8, 9, 6, 10, 11, 12, 13, 14, 15, 16, 17, 18, 19, 20, 21, 22, 23, 24, 25, 26, 27, 28, 29, 30, 31, 32, 33, 34, 35, 36, 37, 38, 39, 40, 41, 42, 43, 44, 45, 46, 47, 48, 49, 50, 51, 52, 53, 54, 55, 56, 57, 58, 59, 60, 61, 62, 63, 64, 65, 66, 67, 68, 69, 70, 71, 72, 73, 74, 75, 76, 77, 78, 79, 80, 81, 82, 83, 84, 85, 86, 87, 88, 89, 90, 91, 92, 93, 94, 95, 96, 97, 98, 99, 100, 101, 102, 103, 104, 105, 106, 107] (by decide +kernel) (by decide +kernel)
set_option maxRecDepth 20000 in
theorem gX4_isHills_X4_firstFault : GoodIn wsX4_isHills (wsV RX4 38 RX4 yX4_firstFault wsX4_firstFault) := goodIn_app (goodIn_of _ (by decide +kernel)) ggX4_isHills_X4_firstFault
theorem dX4_isHills_0 : decode cX4_isHills 0 = .ok (.aload_n 0, 1) := by decide +kernel
theorem dX4_isHills_1 : decode cX4_isHills 1 = .ok (.getfield 15, 3) := by decide +kernel
theorem dX4_isHills_4 : decode cX4_isHills 4 = .ok (.iconst 2, 1) := by decide +kernel
theorem dX4_isHills_5 : decode cX4_isHills 5 = .ok (.if_icmp .lt 34, 3) := by decide +kernel
theorem dX4_isHills_8 : decode cX4_isHills 8 = .ok (.aload_n 0, 1) := by decide +kernel
theorem dX4_isHills_9 : decode cX4_isHills 9 = .ok (.invokevirtual 38, 3) := by decide +kernel
theorem dX4_isHills_12 : decode cX4_isHills 12 = .ok (.aload_n 0, 1) := by decide +kernel
theorem dX4_isHills_13 : decode cX4_isHills 13 = .ok (.getfield 15, 3) := by decide +kernel
theorem dX4_isHills_16 : decode cX4_isHills 16 = .ok (.if_icmp .ne 23, 3) := by decide +kernel
theorem dX4_isHills_19 : decode cX4_isHills 19 = .ok (.aload_n 0, 1) := by decide +kernel
theorem dX4_isHills_20 : decode cX4_isHills 20 = .ok (.getfield 9, 3) := by decide +kernel
theorem dX4_isHills_23 : decode cX4_isHills 23 = .ok (.aload_n 0, 1) := by decide +kernel
theorem dX4_isHills_24 : decode cX4_isHills 24 = .ok (.getfield 15, 3) := by decide +kernel
theorem dX4_isHills_27 : decode cX4_isHills 27 = .ok (.iconst 2, 1) := by decide +kernel
theorem dX4_isHills_28 : decode cX4_isHills 28 = .ok (.isub, 1) := by decide +kernel
theorem dX4_isHills_29 : decode cX4_isHills 29 = .ok (.iaload, 1) := by decide +kernel
theorem dX4_isHills_30 : decode cX4_isHills 30 = .ok (.bipush 59, 2) := by decide +kernel
theorem dX4_isHills_32 : decode cX4_isHills 32 = .ok (.if_icmp .ne 7, 3) := by decide +kernel
theorem dX4_isHills_35 : decode cX4_isHills 35 = .ok (.iconst 1, 1) := by decide +kernel
theorem dX4_isHills_36 : decode cX4_isHills 36 = .ok (.goto 4, 3) := by decide +kernel
theorem dX4_isHills_39 : decode cX4_isHills 39 = .ok (.iconst 0, 1) := by decide +kernel
theorem dX4_isHills_40 : decode cX4_isHills 40 = .ok (.ireturn, 1) := by decide +kernel
theorem dX4_clanCount_0 : decode cX4_clanCount 0 = .ok (.aload_n 0, 1) := by decide +kernel
theorem dX4_clanCount_1 : decode cX4_clanCount 1 = .ok (.getfield 15, 3) := by decide +kernel
theorem dX4_clanCount_4 : decode cX4_clanCount 4 = .ok (.iconst 3, 1) := by decide +kernel
theorem dX4_clanCount_5 : decode cX4_clanCount 5 = .ok (.idiv, 1) := by decide +kernel
theorem dX4_clanCount_6 : decode cX4_clanCount 6 = .ok (.ireturn, 1) := by decide +kernel
set_option maxRecDepth 20000 in
theorem ggX4_kindOf_X4_kindOfLetter : GoodIn wsX4_kindOf wsX4_kindOfLetter := goodIn_r _ [5, 6, 7, 8, 9, 10, 11, 12, 13, 14, 15, 16, 17, 18, 19, 20, 21, 22, 23, 24, 25, 26, 27, 28, 29, 30, 31, 32, 33, 34, 35, 36, 37, 38, 39, 40, 41, 42, 43, 44, 45, 46, 47, 48, 49, 50, 51, 52, 53, 54, 55, 56, 57, 58, 59, 60, 61, 62, 63, 64, 65, 66, 67, 68, 69, 70, 71, 72, 73, 74, 75, 76, 77, 78, 79, 80, 81, 82, 83, 84, 85, 86, 87, 88, 89, 90, 91, 92, 93, 94] (by decide +kernel) (by decide +kernel)
set_option maxRecDepth 20000 in
theorem gX4_kindOf_X4_kindOfLetter : GoodIn wsX4_kindOf (va_wsS RX4 23 yX4_kindOfLetter wsX4_kindOfLetter) := goodIn_app (goodIn_of _ (by decide +kernel)) ggX4_kindOf_X4_kindOfLetter
theorem dX4_kindOf_0 : decode cX4_kindOf 0 = .ok (.aload_n 0, 1) := by decide +kernel
theorem dX4_kindOf_1 : decode cX4_kindOf 1 = .ok (.getfield 9, 3) := by decide +kernel
theorem dX4_kindOf_4 : decode cX4_kindOf 4 = .ok (.iload_n 1, 1) := by decide +kernel
theorem dX4_kindOf_5 : decode cX4_kindOf 5 = .ok (.iconst 3, 1) := by decide +kernel
theorem dX4_kindOf_6 : decode cX4_kindOf 6 = .ok (.imul, 1) := by decide +kernel
theorem dX4_kindOf_7 : decode cX4_kindOf 7 = .ok (.iaload, 1) := by decide +kernel
theorem dX4_kindOf_8 : decode cX4_kindOf 8 = .ok (.invokestatic 23, 3) := by decide +kernel
theorem dX4_kindOf_11 : decode cX4_kindOf 11 = .ok (.ireturn, 1) := by decide +kernel
theorem dX4_herdOf_0 : decode cX4_herdOf 0 = .ok (.aload_n 0, 1) := by decide +kernel
theorem dX4_herdOf_1 : decode cX4_herdOf 1 = .ok (.getfield 9, 3) := by decide +kernel
theorem dX4_herdOf_4 : decode cX4_herdOf 4 = .ok (.iload_n 1, 1) := by decide +kernel
theorem dX4_herdOf_5 : decode cX4_herdOf 5 = .ok (.iconst 3, 1) := by decide +kernel
theorem dX4_herdOf_6 : decode cX4_herdOf 6 = .ok (.imul, 1) := by decide +kernel
theorem dX4_herdOf_7 : decode cX4_herdOf 7 = .ok (.iconst 1, 1) := by decide +kernel
theorem dX4_herdOf_8 : decode cX4_herdOf 8 = .ok (.iadd, 1) := by decide +kernel
theorem dX4_herdOf_9 : decode cX4_herdOf 9 = .ok (.iaload, 1) := by decide +kernel
theorem dX4_herdOf_10 : decode cX4_herdOf 10 = .ok (.bipush 48, 2) := by decide +kernel
theorem dX4_herdOf_12 : decode cX4_herdOf 12 = .ok (.isub, 1) := by decide +kernel
theorem dX4_herdOf_13 : decode cX4_herdOf 13 = .ok (.ireturn, 1) := by decide +kernel
theorem dX4_rateDigit_0 : decode cX4_rateDigit 0 = .ok (.aload_n 0, 1) := by decide +kernel
theorem dX4_rateDigit_1 : decode cX4_rateDigit 1 = .ok (.getfield 15, 3) := by decide +kernel
theorem dX4_rateDigit_4 : decode cX4_rateDigit 4 = .ok (.iconst 1, 1) := by decide +kernel
theorem dX4_rateDigit_5 : decode cX4_rateDigit 5 = .ok (.if_icmp .ge 7, 3) := by decide +kernel
theorem dX4_rateDigit_8 : decode cX4_rateDigit 8 = .ok (.iconst 0, 1) := by decide +kernel
theorem dX4_rateDigit_9 : decode cX4_rateDigit 9 = .ok (.goto 17, 3) := by decide +kernel
theorem dX4_rateDigit_12 : decode cX4_rateDigit 12 = .ok (.aload_n 0, 1) := by decide +kernel
theorem dX4_rateDigit_13 : decode cX4_rateDigit 13 = .ok (.getfield 9, 3) := by decide +kernel
theorem dX4_rateDigit_16 : decode cX4_rateDigit 16 = .ok (.aload_n 0, 1) := by decide +kernel
theorem dX4_rateDigit_17 : decode cX4_rateDigit 17 = .ok (.getfield 15, 3) := by decide +kernel
theorem dX4_rateDigit_20 : decode cX4_rateDigit 20 = .ok (.iconst 1, 1) := by decide +kernel
theorem dX4_rateDigit_21 : decode cX4_rateDigit 21 = .ok (.isub, 1) := by decide +kernel
theorem dX4_rateDigit_22 : decode cX4_rateDigit 22 = .ok (.iaload, 1) := by decide +kernel
theorem dX4_rateDigit_23 : decode cX4_rateDigit 23 = .ok (.bipush 48, 2) := by decide +kernel
theorem dX4_rateDigit_25 : decode cX4_rateDigit 25 = .ok (.isub, 1) := by decide +kernel
theorem dX4_rateDigit_26 : decode cX4_rateDigit 26 = .ok (.ireturn, 1) := by decide +kernel
theorem dX5_init_0 : decode cX5_init 0 = .ok (.aload_n 0, 1) := by decide +kernel
theorem dX5_init_1 : decode cX5_init 1 = .ok (.invokespecial 3, 3) := by decide +kernel
theorem dX5_init_4 : decode cX5_init 4 = .ok (.aload_n 0, 1) := by decide +kernel
theorem dX5_init_5 : decode cX5_init 5 = .ok (.iconst 4, 1) := by decide +kernel
theorem dX5_init_6 : decode cX5_init 6 = .ok (.newarray .int, 2) := by decide +kernel
theorem dX5_init_8 : decode cX5_init 8 = .ok (.putfield 9, 3) := by decide +kernel
theorem dX5_init_11 : decode cX5_init 11 = .ok (.aload_n 0, 1) := by decide +kernel
theorem dX5_init_12 : decode cX5_init 12 = .ok (.iconst 4, 1) := by decide +kernel
theorem dX5_init_13 : decode cX5_init 13 = .ok (.newarray .int, 2) := by decide +kernel
theorem dX5_init_15 : decode cX5_init 15 = .ok (.putfield 15, 3) := by decide +kernel
theorem dX5_init_18 : decode cX5_init 18 = .ok (.aload_n 0, 1) := by decide +kernel
theorem dX5_init_19 : decode cX5_init 19 = .ok (.iconst 4, 1) := by decide +kernel
theorem dX5_init_20 : decode cX5_init 20 = .ok (.newarray .int, 2) := by decide +kernel
theorem dX5_init_22 : decode cX5_init 22 = .ok (.putfield 18, 3) := by decide +kernel
theorem dX5_init_25 : decode cX5_init 25 = .ok (.aload_n 0, 1) := by decide +kernel
theorem dX5_init_26 : decode cX5_init 26 = .ok (.iconst 4, 1) := by decide +kernel
theorem dX5_init_27 : decode cX5_init 27 = .ok (.newarray .int, 2) := by decide +kernel
theorem dX5_init_29 : decode cX5_init 29 = .ok (.putfield 21, 3) := by decide +kernel
theorem dX5_init_32 : decode cX5_init 32 = .ok (.aload_n 0, 1) := by decide +kernel
theorem dX5_init_33 : decode cX5_init 33 = .ok (.iconst 0, 1) := by decide +kernel
theorem dX5_init_34 : decode cX5_init 34 = .ok (.putfield 24, 3) := by decide +kernel
theorem dX5_init_37 : decode cX5_init 37 = .ok (.aload_n 0, 1) := by decide +kernel
theorem dX5_init_38 : decode cX5_init 38 = .ok (.iconst 0, 1) := by decide +kernel
theorem dX5_init_39 : decode cX5_init 39 = .ok (.putfield 28, 3) := by decide +kernel
theorem dX5_init_42 : decode cX5_init 42 = .ok (.return_, 1) := by decide +kernel
theorem dX5_note_0 : decode cX5_note 0 = .ok (.aload_n 0, 1) := by decide +kernel
theorem dX5_note_1 : decode cX5_note 1 = .ok (.getfield 9, 3) := by decide +kernel
theorem dX5_note_4 : decode cX5_note 4 = .ok (.aload_n 0, 1) := by decide +kernel
theorem dX5_note_5 : decode cX5_note 5 = .ok (.getfield 24, 3) := by decide +kernel
theorem dX5_note_8 : decode cX5_note 8 = .ok (.iload_n 1, 1) := by decide +kernel
theorem dX5_note_9 : decode cX5_note 9 = .ok (.iastore, 1) := by decide +kernel
theorem dX5_note_10 : decode cX5_note 10 = .ok (.aload_n 0, 1) := by decide +kernel
theorem dX5_note_11 : decode cX5_note 11 = .ok (.getfield 15, 3) := by decide +kernel
theorem dX5_note_14 : decode cX5_note 14 = .ok (.aload_n 0, 1) := by decide +kernel
theorem dX5_note_15 : decode cX5_note 15 = .ok (.getfield 24, 3) := by decide +kernel
theorem dX5_note_18 : decode cX5_note 18 = .ok (.iload_n 2, 1) := by decide +kernel
theorem dX5_note_19 : decode cX5_note 19 = .ok (.iastore, 1) := by decide +kernel
theorem dX5_note_20 : decode cX5_note 20 = .ok (.aload_n 0, 1) := by decide +kernel
theorem dX5_note_21 : decode cX5_note 21 = .ok (.dup, 1) := by decide +kernel
theorem dX5_note_22 : decode cX5_note 22 = .ok (.getfield 24, 3) := by decide +kernel
theorem dX5_note_25 : decode cX5_note 25 = .ok (.iconst 1, 1) := by decide +kernel
theorem dX5_note_26 : decode cX5_note 26 = .ok (.iadd, 1) := by decide +kernel
theorem dX5_note_27 : decode cX5_note 27 = .ok (.putfield 24, 3) := by decide +kernel
theorem dX5_note_30 : decode cX5_note 30 = .ok (.aload_n 0, 1) := by decide +kernel
theorem dX5_note_31 : decode cX5_note 31 = .ok (.getfield 24, 3) := by decide +kernel
theorem dX5_note_34 : decode cX5_note 34 = .ok (.ireturn, 1) := by decide +kernel
theorem dX5_copyFrom_0 : decode cX5_copyFrom 0 = .ok (.aload_n 0, 1) := by decide +kernel
theorem dX5_copyFrom_1 : decode cX5_copyFrom 1 = .ok (.aload_n 1, 1) := by decide +kernel
theorem dX5_copyFrom_2 : decode cX5_copyFrom 2 = .ok (.getfield 24, 3) := by decide +kernel
theorem dX5_copyFrom_5 : decode cX5_copyFrom 5 = .ok (.putfield 24, 3) := by decide +kernel
theorem dX5_copyFrom_8 : decode cX5_copyFrom 8 = .ok (.iconst 0, 1) := by decide +kernel
theorem dX5_copyFrom_9 : decode cX5_copyFrom 9 = .ok (.istore_n 2, 1) := by decide +kernel
theorem dX5_copyFrom_10 : decode cX5_copyFrom 10 = .ok (.iload_n 2, 1) := by decide +kernel
theorem dX5_copyFrom_11 : decode cX5_copyFrom 11 = .ok (.iconst 4, 1) := by decide +kernel
theorem dX5_copyFrom_12 : decode cX5_copyFrom 12 = .ok (.if_icmp .ge 33, 3) := by decide +kernel
theorem dX5_copyFrom_15 : decode cX5_copyFrom 15 = .ok (.aload_n 0, 1) := by decide +kernel
theorem dX5_copyFrom_16 : decode cX5_copyFrom 16 = .ok (.getfield 9, 3) := by decide +kernel
theorem dX5_copyFrom_19 : decode cX5_copyFrom 19 = .ok (.iload_n 2, 1) := by decide +kernel
theorem dX5_copyFrom_20 : decode cX5_copyFrom 20 = .ok (.aload_n 1, 1) := by decide +kernel
theorem dX5_copyFrom_21 : decode cX5_copyFrom 21 = .ok (.getfield 9, 3) := by decide +kernel
theorem dX5_copyFrom_24 : decode cX5_copyFrom 24 = .ok (.iload_n 2, 1) := by decide +kernel
theorem dX5_copyFrom_25 : decode cX5_copyFrom 25 = .ok (.iaload, 1) := by decide +kernel
theorem dX5_copyFrom_26 : decode cX5_copyFrom 26 = .ok (.iastore, 1) := by decide +kernel
theorem dX5_copyFrom_27 : decode cX5_copyFrom 27 = .ok (.aload_n 0, 1) := by decide +kernel
theorem dX5_copyFrom_28 : decode cX5_copyFrom 28 = .ok (.getfield 15, 3) := by decide +kernel
theorem dX5_copyFrom_31 : decode cX5_copyFrom 31 = .ok (.iload_n 2, 1) := by decide +kernel
theorem dX5_copyFrom_32 : decode cX5_copyFrom 32 = .ok (.aload_n 1, 1) := by decide +kernel
theorem dX5_copyFrom_33 : decode cX5_copyFrom 33 = .ok (.getfield 15, 3) := by decide +kernel
theorem dX5_copyFrom_36 : decode cX5_copyFrom 36 = .ok (.iload_n 2, 1) := by decide +kernel
theorem dX5_copyFrom_37 : decode cX5_copyFrom 37 = .ok (.iaload, 1) := by decide +kernel
theorem dX5_copyFrom_38 : decode cX5_copyFrom 38 = .ok (.iastore, 1) := by decide +kernel
theorem dX5_copyFrom_39 : decode cX5_copyFrom 39 = .ok (.iinc 2 1, 3) := by decide +kernel
theorem dX5_copyFrom_42 : decode cX5_copyFrom 42 = .ok (.goto (-32), 3) := by decide +kernel
theorem dX5_copyFrom_45 : decode cX5_copyFrom 45 = .ok (.return_, 1) := by decide +kernel
set_option maxRecDepth 20000 in
theorem ggX5_findOrder_X5_startOrders : GoodIn wsX5_findOrder wsX5_startOrders := goodIn_r _ [12, 2, 99, 100, 101, 102, 103, 104] (by decide +kernel) (by decide +kernel)
set_option maxRecDepth 20000 in
theorem gX5_findOrder_X5_startOrders : GoodIn wsX5_findOrder (wsV RX5 31 RX5 yX5_startOrders wsX5_startOrders) := goodIn_app (goodIn_of _ (by decide +kernel)) ggX5_findOrder_X5_startOrders
set_option maxRecDepth 20000 in
theorem ggX5_findOrder_X2_copyFrom : GoodIn wsX5_findOrder wsX2_copyFrom := goodIn_r _ [17, 18, 19, 20, 21, 105, 106, 107, 108, 109] (by decide +kernel) (by decide +kernel)
set_option maxRecDepth 20000 in
theorem gX5_findOrder_X2_copyFrom : GoodIn wsX5_findOrder (wsV RX5 34 RX2 yX2_copyFrom wsX2_copyFrom) := goodIn_app (goodIn_of _ (by decide +kernel)) ggX5_findOrder_X2_copyFrom
set_option maxRecDepth 20000 in
theorem ggX5_findOrder_X5_marryInOrder : GoodIn wsX5_findOrder wsX5_marryInOrder := goodIn_r _ [25, 26, 2, 27, 28, 29, 30, 31, 16, 32, 33, 19, 34, 35, 36, 37, 38, 39, 40, 41, 42, 43, 44, 45, 46, 47, 48, 49, 50, 51, 52, 53, 54, 55, 56, 57, 58, 59, 60, 61, 62, 63, 64, 65, 20, 66, 67, 68, 21, 69, 70, 71, 72, 73, 74, 75, 76, 77, 78, 79, 80, 81, 82, 99, 100, 101, 102, 103, 104, 105, 106, 107, 108, 109] (by decide +kernel) (by decide +kernel)
set_option maxRecDepth 20000 in
theorem gX5_findOrder_X5_marryInOrder : GoodIn wsX5_findOrder (wsV RX5 40 RX5 yX5_marryInOrder wsX5_marryInOrder) := goodIn_app (goodIn_of _ (by decide +kernel)) ggX5_findOrder_X5_marryInOrder
set_option maxRecDepth 20000 in
theorem ggX5_findOrder_X2_allOwed : GoodIn wsX5_findOrder wsX2_allOwed := goodIn_r _ [86, 18, 87, 88, 89, 16, 90, 21, 105, 106, 107, 108, 109] (by decide +kernel) (by decide +kernel)
set_option maxRecDepth 20000 in
theorem gX5_findOrder_X2_allOwed : GoodIn wsX5_findOrder (wsV RX5 43 RX2 yX2_allOwed wsX2_allOwed) := goodIn_app (goodIn_of _ (by decide +kernel)) ggX5_findOrder_X2_allOwed
set_option maxRecDepth 20000 in
theorem ggX5_findOrder_X5_nextOrder : GoodIn wsX5_findOrder wsX5_nextOrder := goodIn_r _ [94, 26, 2, 95, 96, 97, 11, 98, 99, 100, 101, 102, 103, 104] (by decide +kernel) (by decide +kernel)
set_option maxRecDepth 20000 in
theorem gX5_findOrder_X5_nextOrder : GoodIn wsX5_findOrder (wsV RX5 53 RX5 yX5_nextOrder wsX5_nextOrder) := goodIn_app (goodIn_of _ (by decide +kernel)) ggX5_findOrder_X5_nextOrder
theorem dX5_findOrder_0 : decode cX5_findOrder 0 = .ok (.aload_n 0, 1) := by decide +kernel
theorem dX5_findOrder_1 : decode cX5_findOrder 1 = .ok (.invokevirtual 31, 3) := by decide +kernel
theorem dX5_findOrder_4 : decode cX5_findOrder 4 = .ok (.iconst 1, 1) := by decide +kernel
theorem dX5_findOrder_5 : decode cX5_findOrder 5 = .ok (.istore_n 3, 1) := by decide +kernel
theorem dX5_findOrder_6 : decode cX5_findOrder 6 = .ok (.iconst 0, 1) := by decide +kernel
theorem dX5_findOrder_7 : decode cX5_findOrder 7 = .ok (.istore 4, 2) := by decide +kernel
theorem dX5_findOrder_9 : decode cX5_findOrder 9 = .ok (.iload 4, 2) := by decide +kernel
theorem dX5_findOrder_11 : decode cX5_findOrder 11 = .ok (.bipush 24, 2) := by decide +kernel
theorem dX5_findOrder_13 : decode cX5_findOrder 13 = .ok (.if_icmp .ge 68, 3) := by decide +kernel
theorem dX5_findOrder_16 : decode cX5_findOrder 16 = .ok (.iload_n 3, 1) := by decide +kernel
theorem dX5_findOrder_17 : decode cX5_findOrder 17 = .ok (.ifCond .eq 64, 3) := by decide +kernel
theorem dX5_findOrder_20 : decode cX5_findOrder 20 = .ok (.aload_n 2, 1) := by decide +kernel
theorem dX5_findOrder_21 : decode cX5_findOrder 21 = .ok (.aload_n 1, 1) := by decide +kernel
theorem dX5_findOrder_22 : decode cX5_findOrder 22 = .ok (.invokevirtual 34, 3) := by decide +kernel
theorem dX5_findOrder_25 : decode cX5_findOrder 25 = .ok (.aload_n 0, 1) := by decide +kernel
theorem dX5_findOrder_26 : decode cX5_findOrder 26 = .ok (.aload_n 2, 1) := by decide +kernel
theorem dX5_findOrder_27 : decode cX5_findOrder 27 = .ok (.invokevirtual 40, 3) := by decide +kernel
theorem dX5_findOrder_30 : decode cX5_findOrder 30 = .ok (.aload_n 2, 1) := by decide +kernel
theorem dX5_findOrder_31 : decode cX5_findOrder 31 = .ok (.invokevirtual 43, 3) := by decide +kernel
theorem dX5_findOrder_34 : decode cX5_findOrder 34 = .ok (.istore 5, 2) := by decide +kernel
theorem dX5_findOrder_36 : decode cX5_findOrder 36 = .ok (.iload 4, 2) := by decide +kernel
theorem dX5_findOrder_38 : decode cX5_findOrder 38 = .ok (.ifCond .eq 12, 3) := by decide +kernel
theorem dX5_findOrder_41 : decode cX5_findOrder 41 = .ok (.iload 5, 2) := by decide +kernel
theorem dX5_findOrder_43 : decode cX5_findOrder 43 = .ok (.aload_n 0, 1) := by decide +kernel
theorem dX5_findOrder_44 : decode cX5_findOrder 44 = .ok (.getfield 28, 3) := by decide +kernel
theorem dX5_findOrder_47 : decode cX5_findOrder 47 = .ok (.if_icmp .ge 23, 3) := by decide +kernel
theorem dX5_findOrder_50 : decode cX5_findOrder 50 = .ok (.aload_n 0, 1) := by decide +kernel
theorem dX5_findOrder_51 : decode cX5_findOrder 51 = .ok (.iload 5, 2) := by decide +kernel
theorem dX5_findOrder_53 : decode cX5_findOrder 53 = .ok (.putfield 28, 3) := by decide +kernel
theorem dX5_findOrder_56 : decode cX5_findOrder 56 = .ok (.aload_n 0, 1) := by decide +kernel
theorem dX5_findOrder_57 : decode cX5_findOrder 57 = .ok (.getfield 18, 3) := by decide +kernel
theorem dX5_findOrder_60 : decode cX5_findOrder 60 = .ok (.iconst 0, 1) := by decide +kernel
theorem dX5_findOrder_61 : decode cX5_findOrder 61 = .ok (.aload_n 0, 1) := by decide +kernel
theorem dX5_findOrder_62 : decode cX5_findOrder 62 = .ok (.getfield 21, 3) := by decide +kernel
theorem dX5_findOrder_65 : decode cX5_findOrder 65 = .ok (.iconst 0, 1) := by decide +kernel
theorem dX5_findOrder_66 : decode cX5_findOrder 66 = .ok (.iconst 4, 1) := by decide +kernel
theorem dX5_findOrder_67 : decode cX5_findOrder 67 = .ok (.invokestatic 47, 3) := by decide +kernel
theorem dX5_findOrder_70 : decode cX5_findOrder 70 = .ok (.aload_n 0, 1) := by decide +kernel
theorem dX5_findOrder_71 : decode cX5_findOrder 71 = .ok (.invokevirtual 53, 3) := by decide +kernel
theorem dX5_findOrder_74 : decode cX5_findOrder 74 = .ok (.istore_n 3, 1) := by decide +kernel
theorem dX5_findOrder_75 : decode cX5_findOrder 75 = .ok (.iinc 4 1, 3) := by decide +kernel
theorem dX5_findOrder_78 : decode cX5_findOrder 78 = .ok (.goto (-69), 3) := by decide +kernel
theorem dX5_findOrder_81 : decode cX5_findOrder 81 = .ok (.return_, 1) := by decide +kernel
theorem dX5_startOrders_0 : decode cX5_startOrders 0 = .ok (.iconst 0, 1) := by decide +kernel
theorem dX5_startOrders_1 : decode cX5_startOrders 1 = .ok (.istore_n 1, 1) := by decide +kernel
theorem dX5_startOrders_2 : decode cX5_startOrders 2 = .ok (.iload_n 1, 1) := by decide +kernel
theorem dX5_startOrders_3 : decode cX5_startOrders 3 = .ok (.iconst 4, 1) := by decide +kernel
theorem dX5_startOrders_4 : decode cX5_startOrders 4 = .ok (.if_icmp .ge 16, 3) := by decide +kernel
theorem dX5_startOrders_7 : decode cX5_startOrders 7 = .ok (.aload_n 0, 1) := by decide +kernel
theorem dX5_startOrders_8 : decode cX5_startOrders 8 = .ok (.getfield 18, 3) := by decide +kernel
theorem dX5_startOrders_11 : decode cX5_startOrders 11 = .ok (.iload_n 1, 1) := by decide +kernel
theorem dX5_startOrders_12 : decode cX5_startOrders 12 = .ok (.iload_n 1, 1) := by decide +kernel
theorem dX5_startOrders_13 : decode cX5_startOrders 13 = .ok (.iastore, 1) := by decide +kernel
theorem dX5_startOrders_14 : decode cX5_startOrders 14 = .ok (.iinc 1 1, 3) := by decide +kernel
theorem dX5_startOrders_17 : decode cX5_startOrders 17 = .ok (.goto (-15), 3) := by decide +kernel
theorem dX5_startOrders_20 : decode cX5_startOrders 20 = .ok (.return_, 1) := by decide +kernel
set_option maxRecDepth 20000 in
theorem ggX5_marryInOrder_X2_marry : GoodIn wsX5_marryInOrder wsX2_marry := goodIn_r _ [9, 10, 11, 12, 13, 14, 15, 16, 17, 18, 19, 20, 21, 22, 23, 24, 25, 26, 27, 28, 29, 30, 31, 32, 33, 34, 35, 36, 37, 38, 39, 40, 41, 42, 8, 43, 44, 45, 46, 47, 48, 49, 50, 51, 52, 53, 54, 55, 56, 57, 58, 59, 60, 61, 62, 69, 70, 71, 72, 73] (by decide +kernel) (by decide +kernel)
set_option maxRecDepth 20000 in
theorem gX5_marryInOrder_X2_marry : GoodIn wsX5_marryInOrder (wsV RX5 57 RX2 yX2_marry wsX2_marry) := goodIn_app (goodIn_of _ (by decide +kernel)) ggX5_marryInOrder_X2_marry
theorem dX5_marryInOrder_0 : decode cX5_marryInOrder 0 = .ok (.iconst 0, 1) := by decide +kernel
theorem dX5_marryInOrder_1 : decode cX5_marryInOrder 1 = .ok (.istore_n 2, 1) := by decide +kernel
theorem dX5_marryInOrder_2 : decode cX5_marryInOrder 2 = .ok (.iload_n 2, 1) := by decide +kernel
theorem dX5_marryInOrder_3 : decode cX5_marryInOrder 3 = .ok (.aload_n 0, 1) := by decide +kernel
theorem dX5_marryInOrder_4 : decode cX5_marryInOrder 4 = .ok (.getfield 24, 3) := by decide +kernel
theorem dX5_marryInOrder_7 : decode cX5_marryInOrder 7 = .ok (.if_icmp .ge 33, 3) := by decide +kernel
theorem dX5_marryInOrder_10 : decode cX5_marryInOrder 10 = .ok (.aload_n 0, 1) := by decide +kernel
theorem dX5_marryInOrder_11 : decode cX5_marryInOrder 11 = .ok (.getfield 18, 3) := by decide +kernel
theorem dX5_marryInOrder_14 : decode cX5_marryInOrder 14 = .ok (.iload_n 2, 1) := by decide +kernel
theorem dX5_marryInOrder_15 : decode cX5_marryInOrder 15 = .ok (.iaload, 1) := by decide +kernel
theorem dX5_marryInOrder_16 : decode cX5_marryInOrder 16 = .ok (.istore_n 3, 1) := by decide +kernel
theorem dX5_marryInOrder_17 : decode cX5_marryInOrder 17 = .ok (.aload_n 1, 1) := by decide +kernel
theorem dX5_marryInOrder_18 : decode cX5_marryInOrder 18 = .ok (.aload_n 0, 1) := by decide +kernel
theorem dX5_marryInOrder_19 : decode cX5_marryInOrder 19 = .ok (.getfield 9, 3) := by decide +kernel
theorem dX5_marryInOrder_22 : decode cX5_marryInOrder 22 = .ok (.iload_n 3, 1) := by decide +kernel
theorem dX5_marryInOrder_23 : decode cX5_marryInOrder 23 = .ok (.iaload, 1) := by decide +kernel
theorem dX5_marryInOrder_24 : decode cX5_marryInOrder 24 = .ok (.aload_n 0, 1) := by decide +kernel
theorem dX5_marryInOrder_25 : decode cX5_marryInOrder 25 = .ok (.getfield 15, 3) := by decide +kernel
theorem dX5_marryInOrder_28 : decode cX5_marryInOrder 28 = .ok (.iload_n 3, 1) := by decide +kernel
theorem dX5_marryInOrder_29 : decode cX5_marryInOrder 29 = .ok (.iaload, 1) := by decide +kernel
theorem dX5_marryInOrder_30 : decode cX5_marryInOrder 30 = .ok (.invokevirtual 57, 3) := by decide +kernel
theorem dX5_marryInOrder_33 : decode cX5_marryInOrder 33 = .ok (.pop, 1) := by decide +kernel
theorem dX5_marryInOrder_34 : decode cX5_marryInOrder 34 = .ok (.iinc 2 1, 3) := by decide +kernel
theorem dX5_marryInOrder_37 : decode cX5_marryInOrder 37 = .ok (.goto (-35), 3) := by decide +kernel
theorem dX5_marryInOrder_40 : decode cX5_marryInOrder 40 = .ok (.return_, 1) := by decide +kernel
set_option maxRecDepth 20000 in
theorem ggX5_nextOrder_X5_swapTried : GoodIn wsX5_nextOrder wsX5_swapTried := goodIn_r _ [7, 2, 8, 9, 10, 11, 12, 13] (by decide +kernel) (by decide +kernel)
set_option maxRecDepth 20000 in
theorem gX5_nextOrder_X5_swapTried : GoodIn wsX5_nextOrder (wsV RX5 61 RX5 yX5_swapTried wsX5_swapTried) := goodIn_app (goodIn_of _ (by decide +kernel)) ggX5_nextOrder_X5_swapTried
theorem dX5_nextOrder_0 : decode cX5_nextOrder 0 = .ok (.aload_n 0, 1) := by decide +kernel
theorem dX5_nextOrder_1 : decode cX5_nextOrder 1 = .ok (.getfield 24, 3) := by decide +kernel
theorem dX5_nextOrder_4 : decode cX5_nextOrder 4 = .ok (.iconst 2, 1) := by decide +kernel
theorem dX5_nextOrder_5 : decode cX5_nextOrder 5 = .ok (.isub, 1) := by decide +kernel
theorem dX5_nextOrder_6 : decode cX5_nextOrder 6 = .ok (.istore_n 1, 1) := by decide +kernel
theorem dX5_nextOrder_7 : decode cX5_nextOrder 7 = .ok (.iload_n 1, 1) := by decide +kernel
theorem dX5_nextOrder_8 : decode cX5_nextOrder 8 = .ok (.ifCond .lt 26, 3) := by decide +kernel
theorem dX5_nextOrder_11 : decode cX5_nextOrder 11 = .ok (.aload_n 0, 1) := by decide +kernel
theorem dX5_nextOrder_12 : decode cX5_nextOrder 12 = .ok (.getfield 18, 3) := by decide +kernel
theorem dX5_nextOrder_15 : decode cX5_nextOrder 15 = .ok (.iload_n 1, 1) := by decide +kernel
theorem dX5_nextOrder_16 : decode cX5_nextOrder 16 = .ok (.iaload, 1) := by decide +kernel
theorem dX5_nextOrder_17 : decode cX5_nextOrder 17 = .ok (.aload_n 0, 1) := by decide +kernel
theorem dX5_nextOrder_18 : decode cX5_nextOrder 18 = .ok (.getfield 18, 3) := by decide +kernel
theorem dX5_nextOrder_21 : decode cX5_nextOrder 21 = .ok (.iload_n 1, 1) := by decide +kernel
theorem dX5_nextOrder_22 : decode cX5_nextOrder 22 = .ok (.iconst 1, 1) := by decide +kernel
theorem dX5_nextOrder_23 : decode cX5_nextOrder 23 = .ok (.iadd, 1) := by decide +kernel
theorem dX5_nextOrder_24 : decode cX5_nextOrder 24 = .ok (.iaload, 1) := by decide +kernel
theorem dX5_nextOrder_25 : decode cX5_nextOrder 25 = .ok (.if_icmp .le 9, 3) := by decide +kernel
theorem dX5_nextOrder_28 : decode cX5_nextOrder 28 = .ok (.iinc 1 (-1), 3) := by decide +kernel
theorem dX5_nextOrder_31 : decode cX5_nextOrder 31 = .ok (.goto (-24), 3) := by decide +kernel
theorem dX5_nextOrder_34 : decode cX5_nextOrder 34 = .ok (.iload_n 1, 1) := by decide +kernel
theorem dX5_nextOrder_35 : decode cX5_nextOrder 35 = .ok (.ifCond .ge 5, 3) := by decide +kernel
theorem dX5_nextOrder_38 : decode cX5_nextOrder 38 = .ok (.iconst 0, 1) := by decide +kernel
theorem dX5_nextOrder_39 : decode cX5_nextOrder 39 = .ok (.ireturn, 1) := by decide +kernel
theorem dX5_nextOrder_40 : decode cX5_nextOrder 40 = .ok (.aload_n 0, 1) := by decide +kernel
theorem dX5_nextOrder_41 : decode cX5_nextOrder 41 = .ok (.getfield 24, 3) := by decide +kernel
theorem dX5_nextOrder_44 : decode cX5_nextOrder 44 = .ok (.iconst 1, 1) := by decide +kernel
theorem dX5_nextOrder_45 : decode cX5_nextOrder 45 = .ok (.isub, 1) := by decide +kernel
theorem dX5_nextOrder_46 : decode cX5_nextOrder 46 = .ok (.istore_n 2, 1) := by decide +kernel
theorem dX5_nextOrder_47 : decode cX5_nextOrder 47 = .ok (.iload_n 2, 1) := by decide +kernel
theorem dX5_nextOrder_48 : decode cX5_nextOrder 48 = .ok (.iload_n 1, 1) := by decide +kernel
theorem dX5_nextOrder_49 : decode cX5_nextOrder 49 = .ok (.if_icmp .le 24, 3) := by decide +kernel
theorem dX5_nextOrder_52 : decode cX5_nextOrder 52 = .ok (.aload_n 0, 1) := by decide +kernel
theorem dX5_nextOrder_53 : decode cX5_nextOrder 53 = .ok (.getfield 18, 3) := by decide +kernel
theorem dX5_nextOrder_56 : decode cX5_nextOrder 56 = .ok (.iload_n 2, 1) := by decide +kernel
theorem dX5_nextOrder_57 : decode cX5_nextOrder 57 = .ok (.iaload, 1) := by decide +kernel
theorem dX5_nextOrder_58 : decode cX5_nextOrder 58 = .ok (.aload_n 0, 1) := by decide +kernel
theorem dX5_nextOrder_59 : decode cX5_nextOrder 59 = .ok (.getfield 18, 3) := by decide +kernel
theorem dX5_nextOrder_62 : decode cX5_nextOrder 62 = .ok (.iload_n 1, 1) := by decide +kernel
theorem dX5_nextOrder_63 : decode cX5_nextOrder 63 = .ok (.iaload, 1) := by decide +kernel
theorem dX5_nextOrder_64 : decode cX5_nextOrder 64 = .ok (.if_icmp .ge 9, 3) := by decide +kernel
theorem dX5_nextOrder_67 : decode cX5_nextOrder 67 = .ok (.iinc 2 (-1), 3) := by decide +kernel
theorem dX5_nextOrder_70 : decode cX5_nextOrder 70 = .ok (.goto (-23), 3) := by decide +kernel
theorem dX5_nextOrder_73 : decode cX5_nextOrder 73 = .ok (.aload_n 0, 1) := by decide +kernel
theorem dX5_nextOrder_74 : decode cX5_nextOrder 74 = .ok (.iload_n 1, 1) := by decide +kernel
theorem dX5_nextOrder_75 : decode cX5_nextOrder 75 = .ok (.iload_n 2, 1) := by decide +kernel
theorem dX5_nextOrder_76 : decode cX5_nextOrder 76 = .ok (.invokevirtual 61, 3) := by decide +kernel
theorem dX5_nextOrder_79 : decode cX5_nextOrder 79 = .ok (.iload_n 1, 1) := by decide +kernel
theorem dX5_nextOrder_80 : decode cX5_nextOrder 80 = .ok (.iconst 1, 1) := by decide +kernel
theorem dX5_nextOrder_81 : decode cX5_nextOrder 81 = .ok (.iadd, 1) := by decide +kernel
theorem dX5_nextOrder_82 : decode cX5_nextOrder 82 = .ok (.istore_n 3, 1) := by decide +kernel
theorem dX5_nextOrder_83 : decode cX5_nextOrder 83 = .ok (.aload_n 0, 1) := by decide +kernel
theorem dX5_nextOrder_84 : decode cX5_nextOrder 84 = .ok (.getfield 24, 3) := by decide +kernel
theorem dX5_nextOrder_87 : decode cX5_nextOrder 87 = .ok (.iconst 1, 1) := by decide +kernel
theorem dX5_nextOrder_88 : decode cX5_nextOrder 88 = .ok (.isub, 1) := by decide +kernel
theorem dX5_nextOrder_89 : decode cX5_nextOrder 89 = .ok (.istore 4, 2) := by decide +kernel
theorem dX5_nextOrder_91 : decode cX5_nextOrder 91 = .ok (.iload_n 3, 1) := by decide +kernel
theorem dX5_nextOrder_92 : decode cX5_nextOrder 92 = .ok (.iload 4, 2) := by decide +kernel
theorem dX5_nextOrder_94 : decode cX5_nextOrder 94 = .ok (.if_icmp .ge 19, 3) := by decide +kernel
theorem dX5_nextOrder_97 : decode cX5_nextOrder 97 = .ok (.aload_n 0, 1) := by decide +kernel
theorem dX5_nextOrder_98 : decode cX5_nextOrder 98 = .ok (.iload_n 3, 1) := by decide +kernel
theorem dX5_nextOrder_99 : decode cX5_nextOrder 99 = .ok (.iload 4, 2) := by decide +kernel
theorem dX5_nextOrder_101 : decode cX5_nextOrder 101 = .ok (.invokevirtual 61, 3) := by decide +kernel
theorem dX5_nextOrder_104 : decode cX5_nextOrder 104 = .ok (.iinc 3 1, 3) := by decide +kernel
theorem dX5_nextOrder_107 : decode cX5_nextOrder 107 = .ok (.iinc 4 (-1), 3) := by decide +kernel
theorem dX5_nextOrder_110 : decode cX5_nextOrder 110 = .ok (.goto (-19), 3) := by decide +kernel
theorem dX5_nextOrder_113 : decode cX5_nextOrder 113 = .ok (.iconst 1, 1) := by decide +kernel
theorem dX5_nextOrder_114 : decode cX5_nextOrder 114 = .ok (.ireturn, 1) := by decide +kernel
theorem dX5_swapTried_0 : decode cX5_swapTried 0 = .ok (.aload_n 0, 1) := by decide +kernel
theorem dX5_swapTried_1 : decode cX5_swapTried 1 = .ok (.getfield 18, 3) := by decide +kernel
theorem dX5_swapTried_4 : decode cX5_swapTried 4 = .ok (.iload_n 1, 1) := by decide +kernel
theorem dX5_swapTried_5 : decode cX5_swapTried 5 = .ok (.iaload, 1) := by decide +kernel
theorem dX5_swapTried_6 : decode cX5_swapTried 6 = .ok (.istore_n 3, 1) := by decide +kernel
theorem dX5_swapTried_7 : decode cX5_swapTried 7 = .ok (.aload_n 0, 1) := by decide +kernel
theorem dX5_swapTried_8 : decode cX5_swapTried 8 = .ok (.getfield 18, 3) := by decide +kernel
theorem dX5_swapTried_11 : decode cX5_swapTried 11 = .ok (.iload_n 1, 1) := by decide +kernel
theorem dX5_swapTried_12 : decode cX5_swapTried 12 = .ok (.aload_n 0, 1) := by decide +kernel
theorem dX5_swapTried_13 : decode cX5_swapTried 13 = .ok (.getfield 18, 3) := by decide +kernel
theorem dX5_swapTried_16 : decode cX5_swapTried 16 = .ok (.iload_n 2, 1) := by decide +kernel
theorem dX5_swapTried_17 : decode cX5_swapTried 17 = .ok (.iaload, 1) := by decide +kernel
theorem dX5_swapTried_18 : decode cX5_swapTried 18 = .ok (.iastore, 1) := by decide +kernel
theorem dX5_swapTried_19 : decode cX5_swapTried 19 = .ok (.aload_n 0, 1) := by decide +kernel
theorem dX5_swapTried_20 : decode cX5_swapTried 20 = .ok (.getfield 18, 3) := by decide +kernel
theorem dX5_swapTried_23 : decode cX5_swapTried 23 = .ok (.iload_n 2, 1) := by decide +kernel
theorem dX5_swapTried_24 : decode cX5_swapTried 24 = .ok (.iload_n 3, 1) := by decide +kernel
theorem dX5_swapTried_25 : decode cX5_swapTried 25 = .ok (.iastore, 1) := by decide +kernel
theorem dX5_swapTried_26 : decode cX5_swapTried 26 = .ok (.return_, 1) := by decide +kernel
theorem dX5_bestAt_0 : decode cX5_bestAt 0 = .ok (.iload_n 1, 1) := by decide +kernel
theorem dX5_bestAt_1 : decode cX5_bestAt 1 = .ok (.ifCond .lt 20, 3) := by decide +kernel
theorem dX5_bestAt_4 : decode cX5_bestAt 4 = .ok (.iload_n 1, 1) := by decide +kernel
theorem dX5_bestAt_5 : decode cX5_bestAt 5 = .ok (.aload_n 0, 1) := by decide +kernel
theorem dX5_bestAt_6 : decode cX5_bestAt 6 = .ok (.getfield 24, 3) := by decide +kernel
theorem dX5_bestAt_9 : decode cX5_bestAt 9 = .ok (.if_icmp .ge 12, 3) := by decide +kernel
end
section
theorem dX5_bestAt_12 : decode cX5_bestAt 12 = .ok (.aload_n 0, 1) := by decide +kernel
theorem dX5_bestAt_13 : decode cX5_bestAt 13 = .ok (.getfield 21, 3) := by decide +kernel
theorem dX5_bestAt_16 : decode cX5_bestAt 16 = .ok (.iload_n 1, 1) := by decide +kernel
theorem dX5_bestAt_17 : decode cX5_bestAt 17 = .ok (.iaload, 1) := by decide +kernel
theorem dX5_bestAt_18 : decode cX5_bestAt 18 = .ok (.goto 4, 3) := by decide +kernel
theorem dX5_bestAt_21 : decode cX5_bestAt 21 = .ok (.iconst (-1), 1) := by decide +kernel
theorem dX5_bestAt_22 : decode cX5_bestAt 22 = .ok (.ireturn, 1) := by decide +kernel
set_option maxRecDepth 20000 in
theorem ggX5_highestRate_X5_startOrders : GoodIn wsX5_highestRate wsX5_startOrders := goodIn_r _ [6, 7, 91, 92, 93, 94, 95, 96] (by decide +kernel) (by decide +kernel)
set_option maxRecDepth 20000 in
theorem gX5_highestRate_X5_startOrders : GoodIn wsX5_highestRate (wsV RX5 31 RX5 yX5_startOrders wsX5_startOrders) := goodIn_app (goodIn_of _ (by decide +kernel)) ggX5_highestRate_X5_startOrders
set_option maxRecDepth 20000 in
theorem ggX5_highestRate_X2_copyFrom : GoodIn wsX5_highestRate wsX2_copyFrom := goodIn_r _ [12, 13, 14, 15, 16, 86, 87, 88, 89, 90] (by decide +kernel) (by decide +kernel)
set_option maxRecDepth 20000 in
theorem gX5_highestRate_X2_copyFrom : GoodIn wsX5_highestRate (wsV RX5 34 RX2 yX2_copyFrom wsX2_copyFrom) := goodIn_app (goodIn_of _ (by decide +kernel)) ggX5_highestRate_X2_copyFrom
set_option maxRecDepth 20000 in
theorem ggX5_highestRate_X5_marryInOrder : GoodIn wsX5_highestRate wsX5_marryInOrder := goodIn_r _ [20, 21, 7, 22, 23, 24, 25, 26, 11, 27, 28, 14, 29, 30, 31, 32, 33, 34, 35, 36, 37, 38, 39, 40, 41, 42, 43, 44, 45, 46, 47, 48, 49, 50, 51, 52, 53, 54, 55, 56, 57, 58, 59, 60, 15, 61, 62, 63, 16, 64, 65, 66, 67, 68, 69, 70, 71, 72, 73, 74, 75, 76, 77, 91, 92, 93, 94, 95, 96, 86, 87, 88, 89, 90] (by decide +kernel) (by decide +kernel)
set_option maxRecDepth 20000 in
theorem gX5_highestRate_X5_marryInOrder : GoodIn wsX5_highestRate (wsV RX5 40 RX5 yX5_marryInOrder wsX5_marryInOrder) := goodIn_app (goodIn_of _ (by decide +kernel)) ggX5_highestRate_X5_marryInOrder
set_option maxRecDepth 20000 in
theorem ggX5_highestRate_X5_owesMore : GoodIn wsX5_highestRate wsX5_owesMore := goodIn_r _ [80, 81, 82, 83, 84, 11, 85, 13, 16, 86, 87, 88, 89, 90] (by decide +kernel) (by decide +kernel)
set_option maxRecDepth 20000 in
theorem gX5_highestRate_X5_owesMore : GoodIn wsX5_highestRate (va_wsS RX5 68 yX5_owesMore wsX5_owesMore) := goodIn_app (goodIn_of _ (by decide +kernel)) ggX5_highestRate_X5_owesMore
theorem dX5_highestRate_0 : decode cX5_highestRate 0 = .ok (.aload_n 0, 1) := by decide +kernel
theorem dX5_highestRate_1 : decode cX5_highestRate 1 = .ok (.invokevirtual 31, 3) := by decide +kernel
theorem dX5_highestRate_4 : decode cX5_highestRate 4 = .ok (.bipush 9, 2) := by decide +kernel
theorem dX5_highestRate_6 : decode cX5_highestRate 6 = .ok (.istore_n 3, 1) := by decide +kernel
theorem dX5_highestRate_7 : decode cX5_highestRate 7 = .ok (.iload_n 3, 1) := by decide +kernel
theorem dX5_highestRate_8 : decode cX5_highestRate 8 = .ok (.iconst 1, 1) := by decide +kernel
theorem dX5_highestRate_9 : decode cX5_highestRate 9 = .ok (.if_icmp .lt 34, 3) := by decide +kernel
theorem dX5_highestRate_12 : decode cX5_highestRate 12 = .ok (.aload_n 2, 1) := by decide +kernel
theorem dX5_highestRate_13 : decode cX5_highestRate 13 = .ok (.aload_n 1, 1) := by decide +kernel
theorem dX5_highestRate_14 : decode cX5_highestRate 14 = .ok (.invokevirtual 34, 3) := by decide +kernel
theorem dX5_highestRate_17 : decode cX5_highestRate 17 = .ok (.aload_n 2, 1) := by decide +kernel
theorem dX5_highestRate_18 : decode cX5_highestRate 18 = .ok (.iload_n 3, 1) := by decide +kernel
theorem dX5_highestRate_19 : decode cX5_highestRate 19 = .ok (.putfield 65, 3) := by decide +kernel
theorem dX5_highestRate_22 : decode cX5_highestRate 22 = .ok (.aload_n 0, 1) := by decide +kernel
theorem dX5_highestRate_23 : decode cX5_highestRate 23 = .ok (.aload_n 2, 1) := by decide +kernel
theorem dX5_highestRate_24 : decode cX5_highestRate 24 = .ok (.invokevirtual 40, 3) := by decide +kernel
theorem dX5_highestRate_27 : decode cX5_highestRate 27 = .ok (.aload_n 2, 1) := by decide +kernel
theorem dX5_highestRate_28 : decode cX5_highestRate 28 = .ok (.aload_n 1, 1) := by decide +kernel
theorem dX5_highestRate_29 : decode cX5_highestRate 29 = .ok (.invokestatic 68, 3) := by decide +kernel
theorem dX5_highestRate_32 : decode cX5_highestRate 32 = .ok (.ifCond .ne 5, 3) := by decide +kernel
theorem dX5_highestRate_35 : decode cX5_highestRate 35 = .ok (.iload_n 3, 1) := by decide +kernel
theorem dX5_highestRate_36 : decode cX5_highestRate 36 = .ok (.ireturn, 1) := by decide +kernel
theorem dX5_highestRate_37 : decode cX5_highestRate 37 = .ok (.iinc 3 (-1), 3) := by decide +kernel
theorem dX5_highestRate_40 : decode cX5_highestRate 40 = .ok (.goto (-33), 3) := by decide +kernel
theorem dX5_highestRate_43 : decode cX5_highestRate 43 = .ok (.iconst (-1), 1) := by decide +kernel
theorem dX5_highestRate_44 : decode cX5_highestRate 44 = .ok (.ireturn, 1) := by decide +kernel
set_option maxRecDepth 20000 in
theorem ggX5_owesMore_X2_owedBy : GoodIn wsX5_owesMore wsX2_owedBy := goodIn_r _ [6, 7, 8, 9, 10, 11, 12, 13] (by decide +kernel) (by decide +kernel)
set_option maxRecDepth 20000 in
theorem gX5_owesMore_X2_owedBy : GoodIn wsX5_owesMore (wsV RX5 73 RX2 yX2_owedBy wsX2_owedBy) := goodIn_app (goodIn_of _ (by decide +kernel)) ggX5_owesMore_X2_owedBy
theorem dX5_owesMore_0 : decode cX5_owesMore 0 = .ok (.iconst 0, 1) := by decide +kernel
theorem dX5_owesMore_1 : decode cX5_owesMore 1 = .ok (.istore_n 2, 1) := by decide +kernel
theorem dX5_owesMore_2 : decode cX5_owesMore 2 = .ok (.iload_n 2, 1) := by decide +kernel
theorem dX5_owesMore_3 : decode cX5_owesMore 3 = .ok (.aload_n 1, 1) := by decide +kernel
theorem dX5_owesMore_4 : decode cX5_owesMore 4 = .ok (.getfield 72, 3) := by decide +kernel
theorem dX5_owesMore_7 : decode cX5_owesMore 7 = .ok (.if_icmp .ge 24, 3) := by decide +kernel
theorem dX5_owesMore_10 : decode cX5_owesMore 10 = .ok (.aload_n 0, 1) := by decide +kernel
theorem dX5_owesMore_11 : decode cX5_owesMore 11 = .ok (.iload_n 2, 1) := by decide +kernel
theorem dX5_owesMore_12 : decode cX5_owesMore 12 = .ok (.invokevirtual 73, 3) := by decide +kernel
theorem dX5_owesMore_15 : decode cX5_owesMore 15 = .ok (.aload_n 1, 1) := by decide +kernel
theorem dX5_owesMore_16 : decode cX5_owesMore 16 = .ok (.iload_n 2, 1) := by decide +kernel
theorem dX5_owesMore_17 : decode cX5_owesMore 17 = .ok (.invokevirtual 73, 3) := by decide +kernel
theorem dX5_owesMore_20 : decode cX5_owesMore 20 = .ok (.if_icmp .le 5, 3) := by decide +kernel
theorem dX5_owesMore_23 : decode cX5_owesMore 23 = .ok (.iconst 1, 1) := by decide +kernel
theorem dX5_owesMore_24 : decode cX5_owesMore 24 = .ok (.ireturn, 1) := by decide +kernel
theorem dX5_owesMore_25 : decode cX5_owesMore 25 = .ok (.iinc 2 1, 3) := by decide +kernel
theorem dX5_owesMore_28 : decode cX5_owesMore 28 = .ok (.goto (-26), 3) := by decide +kernel
theorem dX5_owesMore_31 : decode cX5_owesMore 31 = .ok (.iconst 0, 1) := by decide +kernel
theorem dX5_owesMore_32 : decode cX5_owesMore 32 = .ok (.ireturn, 1) := by decide +kernel
set_option maxRecDepth 20000 in
theorem ggX6_init_X1_init : GoodIn wsX6_init wsX1_init := goodIn_r _ [3, 4, 5, 6] (by decide +kernel) (by decide +kernel)
set_option maxRecDepth 20000 in
theorem gX6_init_X1_init_n3 : GoodIn wsX6_init (wsX1_init) := ggX6_init_X1_init
theorem dX6_init_0 : decode cX6_init 0 = .ok (.aload_n 0, 1) := by decide +kernel
theorem dX6_init_1 : decode cX6_init 1 = .ok (.invokespecial 3, 3) := by decide +kernel
theorem dX6_init_4 : decode cX6_init 4 = .ok (.return_, 1) := by decide +kernel
theorem dX6_number_0 : decode cX6_number 0 = .ok (.iconst 2, 1) := by decide +kernel
theorem dX6_number_1 : decode cX6_number 1 = .ok (.ireturn, 1) := by decide +kernel
theorem dX6_asks_0 : decode cX6_asks 0 = .ok (.iconst 1, 1) := by decide +kernel
theorem dX6_asks_1 : decode cX6_asks 1 = .ok (.iload_n 1, 1) := by decide +kernel
theorem dX6_asks_2 : decode cX6_asks 2 = .ok (.iconst 1, 1) := by decide +kernel
theorem dX6_asks_3 : decode cX6_asks 3 = .ok (.isub, 1) := by decide +kernel
theorem dX6_asks_4 : decode cX6_asks 4 = .ok (.invokestatic 9, 3) := by decide +kernel
theorem dX6_asks_7 : decode cX6_asks 7 = .ok (.ireturn, 1) := by decide +kernel
set_option maxRecDepth 20000 in
theorem ggX7_init_X1_init : GoodIn wsX7_init wsX1_init := goodIn_r _ [3, 4, 5, 6] (by decide +kernel) (by decide +kernel)
set_option maxRecDepth 20000 in
theorem gX7_init_X1_init_n3 : GoodIn wsX7_init (wsX1_init) := ggX7_init_X1_init
theorem dX7_init_0 : decode cX7_init 0 = .ok (.aload_n 0, 1) := by decide +kernel
theorem dX7_init_1 : decode cX7_init 1 = .ok (.invokespecial 3, 3) := by decide +kernel
theorem dX7_init_4 : decode cX7_init 4 = .ok (.return_, 1) := by decide +kernel
theorem dX7_number_0 : decode cX7_number 0 = .ok (.iconst 1, 1) := by decide +kernel
theorem dX7_number_1 : decode cX7_number 1 = .ok (.ireturn, 1) := by decide +kernel
theorem dX7_asks_0 : decode cX7_asks 0 = .ok (.iload_n 1, 1) := by decide +kernel
theorem dX7_asks_1 : decode cX7_asks 1 = .ok (.iconst 1, 1) := by decide +kernel
theorem dX7_asks_2 : decode cX7_asks 2 = .ok (.iadd, 1) := by decide +kernel
theorem dX7_asks_3 : decode cX7_asks 3 = .ok (.ireturn, 1) := by decide +kernel
set_option maxRecDepth 20000 in
theorem ggX8_init_X10_init : GoodIn wsX8_init wsX10_init := goodIn_r _ [22, 23, 2, 3, 24, 25, 26, 27, 28, 29, 55, 56, 57, 58, 59] (by decide +kernel) (by decide +kernel)
set_option maxRecDepth 20000 in
theorem gX8_init_X10_init_n9 : GoodIn wsX8_init (wsX10_init) := ggX8_init_X10_init
set_option maxRecDepth 20000 in
theorem ggX8_init_X5_init : GoodIn wsX8_init wsX5_init := goodIn_r _ [31, 32, 2, 3, 24, 33, 34, 35, 36, 37, 38, 65, 66, 67, 68, 69, 70] (by decide +kernel) (by decide +kernel)
set_option maxRecDepth 20000 in
theorem gX8_init_X5_init_n18 : GoodIn wsX8_init (wsX5_init) := ggX8_init_X5_init
set_option maxRecDepth 20000 in
theorem ggX8_init_X9_init : GoodIn wsX8_init wsX9_init := goodIn_r _ [40, 41, 2, 3, 24, 42, 43, 44, 71, 72, 73] (by decide +kernel) (by decide +kernel)
set_option maxRecDepth 20000 in
theorem gX8_init_X9_init_n25 : GoodIn wsX8_init (wsX9_init) := ggX8_init_X9_init
set_option maxRecDepth 20000 in
theorem ggX8_init_X2_init : GoodIn wsX8_init wsX2_init := goodIn_r _ [47, 48, 2, 3, 24, 49, 50, 51, 52, 53, 54, 74, 75, 76, 77, 78] (by decide +kernel) (by decide +kernel)
set_option maxRecDepth 20000 in
theorem gX8_init_X2_init : GoodIn wsX8_init (wsX2_init) := ggX8_init_X2_init
theorem dX8_init_0 : decode cX8_init 0 = .ok (.aload_n 0, 1) := by decide +kernel
theorem dX8_init_1 : decode cX8_init 1 = .ok (.invokespecial 1, 3) := by decide +kernel
theorem dX8_init_4 : decode cX8_init 4 = .ok (.aload_n 0, 1) := by decide +kernel
theorem dX8_init_5 : decode cX8_init 5 = .ok (.new 7, 3) := by decide +kernel
theorem dX8_init_8 : decode cX8_init 8 = .ok (.dup, 1) := by decide +kernel
theorem dX8_init_9 : decode cX8_init 9 = .ok (.invokespecial 9, 3) := by decide +kernel
theorem dX8_init_12 : decode cX8_init 12 = .ok (.putfield 10, 3) := by decide +kernel
theorem dX8_init_15 : decode cX8_init 15 = .ok (.aload_n 0, 1) := by decide +kernel
theorem dX8_init_16 : decode cX8_init 16 = .ok (.new 16, 3) := by decide +kernel
theorem dX8_init_19 : decode cX8_init 19 = .ok (.dup, 1) := by decide +kernel
theorem dX8_init_20 : decode cX8_init 20 = .ok (.invokespecial 18, 3) := by decide +kernel
theorem dX8_init_23 : decode cX8_init 23 = .ok (.putfield 19, 3) := by decide +kernel
theorem dX8_init_26 : decode cX8_init 26 = .ok (.aload_n 0, 1) := by decide +kernel
theorem dX8_init_27 : decode cX8_init 27 = .ok (.new 23, 3) := by decide +kernel
theorem dX8_init_30 : decode cX8_init 30 = .ok (.dup, 1) := by decide +kernel
theorem dX8_init_31 : decode cX8_init 31 = .ok (.invokespecial 25, 3) := by decide +kernel
theorem dX8_init_34 : decode cX8_init 34 = .ok (.putfield 26, 3) := by decide +kernel
theorem dX8_init_37 : decode cX8_init 37 = .ok (.aload_n 0, 1) := by decide +kernel
theorem dX8_init_38 : decode cX8_init 38 = .ok (.iconst 0, 1) := by decide +kernel
theorem dX8_init_39 : decode cX8_init 39 = .ok (.putfield 30, 3) := by decide +kernel
theorem dX8_init_42 : decode cX8_init 42 = .ok (.aload_n 0, 1) := by decide +kernel
theorem dX8_init_43 : decode cX8_init 43 = .ok (.new 34, 3) := by decide +kernel
theorem dX8_init_46 : decode cX8_init 46 = .ok (.dup, 1) := by decide +kernel
theorem dX8_init_47 : decode cX8_init 47 = .ok (.aload_n 1, 1) := by decide +kernel
theorem dX8_init_48 : decode cX8_init 48 = .ok (.invokespecial 36, 3) := by decide +kernel
theorem dX8_init_51 : decode cX8_init 51 = .ok (.putfield 39, 3) := by decide +kernel
theorem dX8_init_54 : decode cX8_init 54 = .ok (.return_, 1) := by decide +kernel
set_option maxRecDepth 20000 in
theorem ggX8_begin_X2_begin : GoodIn wsX8_begin wsX2_begin := goodIn_r _ [13, 14, 15, 16, 17, 37, 38, 39, 40, 41] (by decide +kernel) (by decide +kernel)
set_option maxRecDepth 20000 in
theorem gX8_begin_X2_begin : GoodIn wsX8_begin (wsV RX8 43 RX2 yX2_begin wsX2_begin) := goodIn_app (goodIn_of _ (by decide +kernel)) ggX8_begin_X2_begin
theorem dX8_begin_0 : decode cX8_begin 0 = .ok (.aload_n 0, 1) := by decide +kernel
theorem dX8_begin_1 : decode cX8_begin 1 = .ok (.getfield 39, 3) := by decide +kernel
theorem dX8_begin_4 : decode cX8_begin 4 = .ok (.iload_n 1, 1) := by decide +kernel
theorem dX8_begin_5 : decode cX8_begin 5 = .ok (.iload_n 2, 1) := by decide +kernel
theorem dX8_begin_6 : decode cX8_begin 6 = .ok (.invokevirtual 43, 3) := by decide +kernel
theorem dX8_begin_9 : decode cX8_begin 9 = .ok (.aload_n 0, 1) := by decide +kernel
theorem dX8_begin_10 : decode cX8_begin 10 = .ok (.getfield 10, 3) := by decide +kernel
theorem dX8_begin_13 : decode cX8_begin 13 = .ok (.iconst 0, 1) := by decide +kernel
theorem dX8_begin_14 : decode cX8_begin 14 = .ok (.putfield 47, 3) := by decide +kernel
theorem dX8_begin_17 : decode cX8_begin 17 = .ok (.aload_n 0, 1) := by decide +kernel
theorem dX8_begin_18 : decode cX8_begin 18 = .ok (.getfield 19, 3) := by decide +kernel
theorem dX8_begin_21 : decode cX8_begin 21 = .ok (.iconst 0, 1) := by decide +kernel
theorem dX8_begin_22 : decode cX8_begin 22 = .ok (.putfield 50, 3) := by decide +kernel
theorem dX8_begin_25 : decode cX8_begin 25 = .ok (.aload_n 0, 1) := by decide +kernel
theorem dX8_begin_26 : decode cX8_begin 26 = .ok (.getfield 26, 3) := by decide +kernel
theorem dX8_begin_29 : decode cX8_begin 29 = .ok (.iconst 0, 1) := by decide +kernel
theorem dX8_begin_30 : decode cX8_begin 30 = .ok (.putfield 51, 3) := by decide +kernel
theorem dX8_begin_33 : decode cX8_begin 33 = .ok (.aload_n 0, 1) := by decide +kernel
theorem dX8_begin_34 : decode cX8_begin 34 = .ok (.iconst 0, 1) := by decide +kernel
theorem dX8_begin_35 : decode cX8_begin 35 = .ok (.putfield 30, 3) := by decide +kernel
theorem dX8_begin_38 : decode cX8_begin 38 = .ok (.return_, 1) := by decide +kernel
set_option maxRecDepth 20000 in
theorem ggX8_copyFrom_X2_copyFrom : GoodIn wsX8_copyFrom wsX2_copyFrom := goodIn_r _ [10, 11, 12, 13, 14, 46, 47, 48, 49, 50] (by decide +kernel) (by decide +kernel)
set_option maxRecDepth 20000 in
theorem gX8_copyFrom_X2_copyFrom : GoodIn wsX8_copyFrom (wsV RX8 52 RX2 yX2_copyFrom wsX2_copyFrom) := goodIn_app (goodIn_of _ (by decide +kernel)) ggX8_copyFrom_X2_copyFrom
set_option maxRecDepth 20000 in
theorem ggX8_copyFrom_X10_copyFrom : GoodIn wsX8_copyFrom wsX10_copyFrom := goodIn_r _ [19, 20, 21, 22, 23, 24, 51, 52, 53, 54, 55] (by decide +kernel) (by decide +kernel)
set_option maxRecDepth 20000 in
theorem gX8_copyFrom_X10_copyFrom : GoodIn wsX8_copyFrom (wsV RX8 56 RX10 yX10_copyFrom wsX10_copyFrom) := goodIn_app (goodIn_of _ (by decide +kernel)) ggX8_copyFrom_X10_copyFrom
set_option maxRecDepth 20000 in
theorem ggX8_copyFrom_X5_copyFrom : GoodIn wsX8_copyFrom wsX5_copyFrom := goodIn_r _ [29, 30, 31, 32, 56, 57, 58, 59, 60, 61] (by decide +kernel) (by decide +kernel)
set_option maxRecDepth 20000 in
theorem gX8_copyFrom_X5_copyFrom : GoodIn wsX8_copyFrom (wsV RX8 59 RX5 yX5_copyFrom wsX5_copyFrom) := goodIn_app (goodIn_of _ (by decide +kernel)) ggX8_copyFrom_X5_copyFrom
set_option maxRecDepth 20000 in
theorem ggX8_copyFrom_X9_copyFrom : GoodIn wsX8_copyFrom wsX9_copyFrom := goodIn_r _ [37, 38, 39, 40, 62, 63, 64] (by decide +kernel) (by decide +kernel)
set_option maxRecDepth 20000 in
theorem gX8_copyFrom_X9_copyFrom : GoodIn wsX8_copyFrom (wsV RX8 62 RX9 yX9_copyFrom wsX9_copyFrom) := goodIn_app (goodIn_of _ (by decide +kernel)) ggX8_copyFrom_X9_copyFrom
theorem dX8_copyFrom_0 : decode cX8_copyFrom 0 = .ok (.aload_n 0, 1) := by decide +kernel
theorem dX8_copyFrom_1 : decode cX8_copyFrom 1 = .ok (.getfield 39, 3) := by decide +kernel
theorem dX8_copyFrom_4 : decode cX8_copyFrom 4 = .ok (.aload_n 1, 1) := by decide +kernel
theorem dX8_copyFrom_5 : decode cX8_copyFrom 5 = .ok (.getfield 39, 3) := by decide +kernel
theorem dX8_copyFrom_8 : decode cX8_copyFrom 8 = .ok (.invokevirtual 52, 3) := by decide +kernel
theorem dX8_copyFrom_11 : decode cX8_copyFrom 11 = .ok (.aload_n 0, 1) := by decide +kernel
theorem dX8_copyFrom_12 : decode cX8_copyFrom 12 = .ok (.getfield 10, 3) := by decide +kernel
theorem dX8_copyFrom_15 : decode cX8_copyFrom 15 = .ok (.aload_n 1, 1) := by decide +kernel
theorem dX8_copyFrom_16 : decode cX8_copyFrom 16 = .ok (.getfield 10, 3) := by decide +kernel
theorem dX8_copyFrom_19 : decode cX8_copyFrom 19 = .ok (.invokevirtual 56, 3) := by decide +kernel
theorem dX8_copyFrom_22 : decode cX8_copyFrom 22 = .ok (.aload_n 0, 1) := by decide +kernel
theorem dX8_copyFrom_23 : decode cX8_copyFrom 23 = .ok (.getfield 19, 3) := by decide +kernel
theorem dX8_copyFrom_26 : decode cX8_copyFrom 26 = .ok (.aload_n 1, 1) := by decide +kernel
theorem dX8_copyFrom_27 : decode cX8_copyFrom 27 = .ok (.getfield 19, 3) := by decide +kernel
theorem dX8_copyFrom_30 : decode cX8_copyFrom 30 = .ok (.invokevirtual 59, 3) := by decide +kernel
theorem dX8_copyFrom_33 : decode cX8_copyFrom 33 = .ok (.aload_n 0, 1) := by decide +kernel
theorem dX8_copyFrom_34 : decode cX8_copyFrom 34 = .ok (.getfield 26, 3) := by decide +kernel
theorem dX8_copyFrom_37 : decode cX8_copyFrom 37 = .ok (.aload_n 1, 1) := by decide +kernel
theorem dX8_copyFrom_38 : decode cX8_copyFrom 38 = .ok (.getfield 26, 3) := by decide +kernel
theorem dX8_copyFrom_41 : decode cX8_copyFrom 41 = .ok (.invokevirtual 62, 3) := by decide +kernel
theorem dX8_copyFrom_44 : decode cX8_copyFrom 44 = .ok (.aload_n 0, 1) := by decide +kernel
theorem dX8_copyFrom_45 : decode cX8_copyFrom 45 = .ok (.aload_n 1, 1) := by decide +kernel
theorem dX8_copyFrom_46 : decode cX8_copyFrom 46 = .ok (.getfield 30, 3) := by decide +kernel
theorem dX8_copyFrom_49 : decode cX8_copyFrom 49 = .ok (.putfield 30, 3) := by decide +kernel
theorem dX8_copyFrom_52 : decode cX8_copyFrom 52 = .ok (.return_, 1) := by decide +kernel
theorem dX9_init_0 : decode cX9_init 0 = .ok (.aload_n 0, 1) := by decide +kernel
theorem dX9_init_1 : decode cX9_init 1 = .ok (.invokespecial 3, 3) := by decide +kernel
theorem dX9_init_4 : decode cX9_init 4 = .ok (.aload_n 0, 1) := by decide +kernel
theorem dX9_init_5 : decode cX9_init 5 = .ok (.bipush 6, 2) := by decide +kernel
theorem dX9_init_7 : decode cX9_init 7 = .ok (.newarray .int, 2) := by decide +kernel
theorem dX9_init_9 : decode cX9_init 9 = .ok (.putfield 9, 3) := by decide +kernel
theorem dX9_init_12 : decode cX9_init 12 = .ok (.aload_n 0, 1) := by decide +kernel
theorem dX9_init_13 : decode cX9_init 13 = .ok (.bipush 6, 2) := by decide +kernel
theorem dX9_init_15 : decode cX9_init 15 = .ok (.newarray .int, 2) := by decide +kernel
theorem dX9_init_17 : decode cX9_init 17 = .ok (.putfield 15, 3) := by decide +kernel
theorem dX9_init_20 : decode cX9_init 20 = .ok (.aload_n 0, 1) := by decide +kernel
theorem dX9_init_21 : decode cX9_init 21 = .ok (.iconst 0, 1) := by decide +kernel
theorem dX9_init_22 : decode cX9_init 22 = .ok (.putfield 18, 3) := by decide +kernel
theorem dX9_init_25 : decode cX9_init 25 = .ok (.return_, 1) := by decide +kernel
theorem dX9_note_0 : decode cX9_note 0 = .ok (.aload_n 0, 1) := by decide +kernel
theorem dX9_note_1 : decode cX9_note 1 = .ok (.getfield 9, 3) := by decide +kernel
theorem dX9_note_4 : decode cX9_note 4 = .ok (.aload_n 0, 1) := by decide +kernel
theorem dX9_note_5 : decode cX9_note 5 = .ok (.getfield 18, 3) := by decide +kernel
theorem dX9_note_8 : decode cX9_note 8 = .ok (.iload_n 1, 1) := by decide +kernel
theorem dX9_note_9 : decode cX9_note 9 = .ok (.iastore, 1) := by decide +kernel
theorem dX9_note_10 : decode cX9_note 10 = .ok (.aload_n 0, 1) := by decide +kernel
theorem dX9_note_11 : decode cX9_note 11 = .ok (.getfield 15, 3) := by decide +kernel
theorem dX9_note_14 : decode cX9_note 14 = .ok (.aload_n 0, 1) := by decide +kernel
theorem dX9_note_15 : decode cX9_note 15 = .ok (.getfield 18, 3) := by decide +kernel
theorem dX9_note_18 : decode cX9_note 18 = .ok (.iload_n 2, 1) := by decide +kernel
theorem dX9_note_19 : decode cX9_note 19 = .ok (.iastore, 1) := by decide +kernel
theorem dX9_note_20 : decode cX9_note 20 = .ok (.aload_n 0, 1) := by decide +kernel
theorem dX9_note_21 : decode cX9_note 21 = .ok (.dup, 1) := by decide +kernel
theorem dX9_note_22 : decode cX9_note 22 = .ok (.getfield 18, 3) := by decide +kernel
theorem dX9_note_25 : decode cX9_note 25 = .ok (.iconst 1, 1) := by decide +kernel
theorem dX9_note_26 : decode cX9_note 26 = .ok (.iadd, 1) := by decide +kernel
theorem dX9_note_27 : decode cX9_note 27 = .ok (.putfield 18, 3) := by decide +kernel
theorem dX9_note_30 : decode cX9_note 30 = .ok (.aload_n 0, 1) := by decide +kernel
theorem dX9_note_31 : decode cX9_note 31 = .ok (.getfield 18, 3) := by decide +kernel
theorem dX9_note_34 : decode cX9_note 34 = .ok (.ireturn, 1) := by decide +kernel
theorem dX9_copyFrom_0 : decode cX9_copyFrom 0 = .ok (.aload_n 0, 1) := by decide +kernel
theorem dX9_copyFrom_1 : decode cX9_copyFrom 1 = .ok (.aload_n 1, 1) := by decide +kernel
theorem dX9_copyFrom_2 : decode cX9_copyFrom 2 = .ok (.getfield 18, 3) := by decide +kernel
theorem dX9_copyFrom_5 : decode cX9_copyFrom 5 = .ok (.putfield 18, 3) := by decide +kernel
theorem dX9_copyFrom_8 : decode cX9_copyFrom 8 = .ok (.iconst 0, 1) := by decide +kernel
theorem dX9_copyFrom_9 : decode cX9_copyFrom 9 = .ok (.istore_n 2, 1) := by decide +kernel
theorem dX9_copyFrom_10 : decode cX9_copyFrom 10 = .ok (.iload_n 2, 1) := by decide +kernel
theorem dX9_copyFrom_11 : decode cX9_copyFrom 11 = .ok (.bipush 6, 2) := by decide +kernel
theorem dX9_copyFrom_13 : decode cX9_copyFrom 13 = .ok (.if_icmp .ge 33, 3) := by decide +kernel
theorem dX9_copyFrom_16 : decode cX9_copyFrom 16 = .ok (.aload_n 0, 1) := by decide +kernel
theorem dX9_copyFrom_17 : decode cX9_copyFrom 17 = .ok (.getfield 9, 3) := by decide +kernel
theorem dX9_copyFrom_20 : decode cX9_copyFrom 20 = .ok (.iload_n 2, 1) := by decide +kernel
theorem dX9_copyFrom_21 : decode cX9_copyFrom 21 = .ok (.aload_n 1, 1) := by decide +kernel
theorem dX9_copyFrom_22 : decode cX9_copyFrom 22 = .ok (.getfield 9, 3) := by decide +kernel
theorem dX9_copyFrom_25 : decode cX9_copyFrom 25 = .ok (.iload_n 2, 1) := by decide +kernel
theorem dX9_copyFrom_26 : decode cX9_copyFrom 26 = .ok (.iaload, 1) := by decide +kernel
theorem dX9_copyFrom_27 : decode cX9_copyFrom 27 = .ok (.iastore, 1) := by decide +kernel
theorem dX9_copyFrom_28 : decode cX9_copyFrom 28 = .ok (.aload_n 0, 1) := by decide +kernel
theorem dX9_copyFrom_29 : decode cX9_copyFrom 29 = .ok (.getfield 15, 3) := by decide +kernel
theorem dX9_copyFrom_32 : decode cX9_copyFrom 32 = .ok (.iload_n 2, 1) := by decide +kernel
theorem dX9_copyFrom_33 : decode cX9_copyFrom 33 = .ok (.aload_n 1, 1) := by decide +kernel
theorem dX9_copyFrom_34 : decode cX9_copyFrom 34 = .ok (.getfield 15, 3) := by decide +kernel
theorem dX9_copyFrom_37 : decode cX9_copyFrom 37 = .ok (.iload_n 2, 1) := by decide +kernel
theorem dX9_copyFrom_38 : decode cX9_copyFrom 38 = .ok (.iaload, 1) := by decide +kernel
theorem dX9_copyFrom_39 : decode cX9_copyFrom 39 = .ok (.iastore, 1) := by decide +kernel
theorem dX9_copyFrom_40 : decode cX9_copyFrom 40 = .ok (.iinc 2 1, 3) := by decide +kernel
theorem dX9_copyFrom_43 : decode cX9_copyFrom 43 = .ok (.goto (-33), 3) := by decide +kernel
theorem dX9_copyFrom_46 : decode cX9_copyFrom 46 = .ok (.return_, 1) := by decide +kernel
set_option maxRecDepth 20000 in
theorem ggX9_kindsLeft_X9_canBe : GoodIn wsX9_kindsLeft wsX9_canBe := goodIn_r _ [5, 6, 7, 8, 9, 10, 11, 12, 13, 14, 15, 16, 17, 18, 19, 20, 21, 22, 23, 24, 25, 26, 27, 28, 29, 30, 31, 32, 33, 34, 35, 36, 37, 38, 39] (by decide +kernel) (by decide +kernel)
set_option maxRecDepth 20000 in
theorem gX9_kindsLeft_X9_canBe : GoodIn wsX9_kindsLeft (wsV RX9 22 RX9 yX9_canBe wsX9_canBe) := goodIn_app (goodIn_of _ (by decide +kernel)) ggX9_kindsLeft_X9_canBe
theorem dX9_kindsLeft_0 : decode cX9_kindsLeft 0 = .ok (.iconst 0, 1) := by decide +kernel
theorem dX9_kindsLeft_1 : decode cX9_kindsLeft 1 = .ok (.istore_n 2, 1) := by decide +kernel
theorem dX9_kindsLeft_2 : decode cX9_kindsLeft 2 = .ok (.iconst 0, 1) := by decide +kernel
theorem dX9_kindsLeft_3 : decode cX9_kindsLeft 3 = .ok (.istore_n 3, 1) := by decide +kernel
theorem dX9_kindsLeft_4 : decode cX9_kindsLeft 4 = .ok (.iload_n 3, 1) := by decide +kernel
theorem dX9_kindsLeft_5 : decode cX9_kindsLeft 5 = .ok (.aload_n 1, 1) := by decide +kernel
theorem dX9_kindsLeft_6 : decode cX9_kindsLeft 6 = .ok (.arraylength, 1) := by decide +kernel
theorem dX9_kindsLeft_7 : decode cX9_kindsLeft 7 = .ok (.if_icmp .ge 25, 3) := by decide +kernel
theorem dX9_kindsLeft_10 : decode cX9_kindsLeft 10 = .ok (.aload_n 0, 1) := by decide +kernel
theorem dX9_kindsLeft_11 : decode cX9_kindsLeft 11 = .ok (.aload_n 1, 1) := by decide +kernel
theorem dX9_kindsLeft_12 : decode cX9_kindsLeft 12 = .ok (.iload_n 3, 1) := by decide +kernel
theorem dX9_kindsLeft_13 : decode cX9_kindsLeft 13 = .ok (.aaload, 1) := by decide +kernel
theorem dX9_kindsLeft_14 : decode cX9_kindsLeft 14 = .ok (.invokevirtual 22, 3) := by decide +kernel
theorem dX9_kindsLeft_17 : decode cX9_kindsLeft 17 = .ok (.ifCond .eq 9, 3) := by decide +kernel
theorem dX9_kindsLeft_20 : decode cX9_kindsLeft 20 = .ok (.iload_n 2, 1) := by decide +kernel
theorem dX9_kindsLeft_21 : decode cX9_kindsLeft 21 = .ok (.iconst 1, 1) := by decide +kernel
theorem dX9_kindsLeft_22 : decode cX9_kindsLeft 22 = .ok (.iload_n 3, 1) := by decide +kernel
theorem dX9_kindsLeft_23 : decode cX9_kindsLeft 23 = .ok (.ishl, 1) := by decide +kernel
theorem dX9_kindsLeft_24 : decode cX9_kindsLeft 24 = .ok (.ior, 1) := by decide +kernel
theorem dX9_kindsLeft_25 : decode cX9_kindsLeft 25 = .ok (.istore_n 2, 1) := by decide +kernel
theorem dX9_kindsLeft_26 : decode cX9_kindsLeft 26 = .ok (.iinc 3 1, 3) := by decide +kernel
theorem dX9_kindsLeft_29 : decode cX9_kindsLeft 29 = .ok (.goto (-25), 3) := by decide +kernel
theorem dX9_kindsLeft_32 : decode cX9_kindsLeft 32 = .ok (.iload_n 2, 1) := by decide +kernel
theorem dX9_kindsLeft_33 : decode cX9_kindsLeft 33 = .ok (.ireturn, 1) := by decide +kernel
set_option maxRecDepth 20000 in
theorem ggX9_canBe_X1_asks : GoodIn wsX9_canBe wsX1_asks := goodIn_r _ [9] (by decide +kernel) (by decide +kernel)
set_option maxRecDepth 20000 in
theorem gX9_canBe_X1_asks_u26X0 : GoodIn wsX9_canBe (va_wsU RX9 26 RX0 "CowsOwed$Clan" ⟨"CowsOwed$Clan", "asks", "(I)I"⟩ yX1_asks wsX1_asks) := goodIn_app (goodIn_of _ (by decide +kernel)) ggX9_canBe_X1_asks
set_option maxRecDepth 20000 in
theorem gX9_canBe_X1_asks : GoodIn wsX9_canBe (wsV RX9 26 RX1 yX1_asks wsX1_asks) := goodIn_app (goodIn_of _ (by decide +kernel)) ggX9_canBe_X1_asks
set_option maxRecDepth 20000 in
theorem ggX9_canBe_X3_asks : GoodIn wsX9_canBe wsX3_asks := goodIn_r _ [16, 17, 18, 19, 20, 21, 22] (by decide +kernel) (by decide +kernel)
set_option maxRecDepth 20000 in
theorem gX9_canBe_X3_asks_u26X3 : GoodIn wsX9_canBe (va_wsO RX9 26 RX3 "CowsOwed$Clan" ⟨"CowsOwed$Clan", "asks", "(I)I"⟩ yX3_asks wsX3_asks) := goodIn_app (goodIn_of _ (by decide +kernel)) ggX9_canBe_X3_asks
set_option maxRecDepth 20000 in
theorem ggX9_canBe_X6_asks : GoodIn wsX9_canBe wsX6_asks := goodIn_r _ [26, 27, 28, 29, 30] (by decide +kernel) (by decide +kernel)
set_option maxRecDepth 20000 in
theorem gX9_canBe_X6_asks_u26X6 : GoodIn wsX9_canBe (va_wsO RX9 26 RX6 "CowsOwed$Clan" ⟨"CowsOwed$Clan", "asks", "(I)I"⟩ yX6_asks wsX6_asks) := goodIn_app (goodIn_of _ (by decide +kernel)) ggX9_canBe_X6_asks
set_option maxRecDepth 20000 in
theorem ggX9_canBe_X7_asks : GoodIn wsX9_canBe wsX7_asks := goodIn_r _ [22] (by decide +kernel) (by decide +kernel)
set_option maxRecDepth 20000 in
theorem gX9_canBe_X7_asks_u26X7 : GoodIn wsX9_canBe (va_wsO RX9 26 RX7 "CowsOwed$Clan" ⟨"CowsOwed$Clan", "asks", "(I)I"⟩ yX7_asks wsX7_asks) := goodIn_app (goodIn_of _ (by decide +kernel)) ggX9_canBe_X7_asks
theorem dX9_canBe_0 : decode cX9_canBe 0 = .ok (.iconst 0, 1) := by decide +kernel
theorem dX9_canBe_1 : decode cX9_canBe 1 = .ok (.istore_n 2, 1) := by decide +kernel
theorem dX9_canBe_2 : decode cX9_canBe 2 = .ok (.iload_n 2, 1) := by decide +kernel
theorem dX9_canBe_3 : decode cX9_canBe 3 = .ok (.aload_n 0, 1) := by decide +kernel
theorem dX9_canBe_4 : decode cX9_canBe 4 = .ok (.getfield 18, 3) := by decide +kernel
theorem dX9_canBe_7 : decode cX9_canBe 7 = .ok (.if_icmp .ge 30, 3) := by decide +kernel
theorem dX9_canBe_10 : decode cX9_canBe 10 = .ok (.aload_n 1, 1) := by decide +kernel
theorem dX9_canBe_11 : decode cX9_canBe 11 = .ok (.aload_n 0, 1) := by decide +kernel
theorem dX9_canBe_12 : decode cX9_canBe 12 = .ok (.getfield 9, 3) := by decide +kernel
theorem dX9_canBe_15 : decode cX9_canBe 15 = .ok (.iload_n 2, 1) := by decide +kernel
theorem dX9_canBe_16 : decode cX9_canBe 16 = .ok (.iaload, 1) := by decide +kernel
theorem dX9_canBe_17 : decode cX9_canBe 17 = .ok (.invokevirtual 26, 3) := by decide +kernel
theorem dX9_canBe_20 : decode cX9_canBe 20 = .ok (.aload_n 0, 1) := by decide +kernel
theorem dX9_canBe_21 : decode cX9_canBe 21 = .ok (.getfield 15, 3) := by decide +kernel
theorem dX9_canBe_24 : decode cX9_canBe 24 = .ok (.iload_n 2, 1) := by decide +kernel
theorem dX9_canBe_25 : decode cX9_canBe 25 = .ok (.iaload, 1) := by decide +kernel
theorem dX9_canBe_26 : decode cX9_canBe 26 = .ok (.if_icmp .eq 5, 3) := by decide +kernel
theorem dX9_canBe_29 : decode cX9_canBe 29 = .ok (.iconst 0, 1) := by decide +kernel
theorem dX9_canBe_30 : decode cX9_canBe 30 = .ok (.ireturn, 1) := by decide +kernel
theorem dX9_canBe_31 : decode cX9_canBe 31 = .ok (.iinc 2 1, 3) := by decide +kernel
theorem dX9_canBe_34 : decode cX9_canBe 34 = .ok (.goto (-32), 3) := by decide +kernel
theorem dX9_canBe_37 : decode cX9_canBe 37 = .ok (.iconst 1, 1) := by decide +kernel
theorem dX9_canBe_38 : decode cX9_canBe 38 = .ok (.ireturn, 1) := by decide +kernel
set_option maxRecDepth 20000 in
theorem ggX9_nextRate_X9_kindsLeft : GoodIn wsX9_nextRate wsX9_kindsLeft := goodIn_r _ [5, 6, 7, 8, 4, 9, 10, 11, 12, 13, 14, 15, 16, 17, 18, 19, 20, 21, 22, 23, 24, 25, 26, 27, 28, 29, 30, 31, 32, 33, 34, 35, 36, 37, 38, 39, 40, 51, 52, 53] (by decide +kernel) (by decide +kernel)
set_option maxRecDepth 20000 in
theorem gX9_nextRate_X9_kindsLeft : GoodIn wsX9_nextRate (wsV RX9 32 RX9 yX9_kindsLeft wsX9_kindsLeft) := goodIn_app (goodIn_of _ (by decide +kernel)) ggX9_nextRate_X9_kindsLeft
set_option maxRecDepth 20000 in
theorem ggX9_nextRate_X9_mostLeft : GoodIn wsX9_nextRate wsX9_mostLeft := goodIn_r _ [43, 44, 37, 38, 39, 45, 46, 4, 47, 13, 14, 15, 16, 17, 18, 19, 20, 21, 22, 23, 24, 25, 26, 27, 28, 29, 30, 31, 32, 33, 34, 35, 36, 40, 48, 49, 50] (by decide +kernel) (by decide +kernel)
set_option maxRecDepth 20000 in
theorem gX9_nextRate_X9_mostLeft : GoodIn wsX9_nextRate (va_wsS RX9 36 yX9_mostLeft wsX9_mostLeft) := goodIn_app (goodIn_of _ (by decide +kernel)) ggX9_nextRate_X9_mostLeft
theorem dX9_nextRate_0 : decode cX9_nextRate 0 = .ok (.aload_n 0, 1) := by decide +kernel
theorem dX9_nextRate_1 : decode cX9_nextRate 1 = .ok (.aload_n 1, 1) := by decide +kernel
theorem dX9_nextRate_2 : decode cX9_nextRate 2 = .ok (.invokevirtual 32, 3) := by decide +kernel
theorem dX9_nextRate_5 : decode cX9_nextRate 5 = .ok (.istore_n 2, 1) := by decide +kernel
theorem dX9_nextRate_6 : decode cX9_nextRate 6 = .ok (.iload_n 2, 1) := by decide +kernel
theorem dX9_nextRate_7 : decode cX9_nextRate 7 = .ok (.ifCond .ne 5, 3) := by decide +kernel
theorem dX9_nextRate_10 : decode cX9_nextRate 10 = .ok (.iconst (-1), 1) := by decide +kernel
theorem dX9_nextRate_11 : decode cX9_nextRate 11 = .ok (.ireturn, 1) := by decide +kernel
theorem dX9_nextRate_12 : decode cX9_nextRate 12 = .ok (.iconst (-1), 1) := by decide +kernel
theorem dX9_nextRate_13 : decode cX9_nextRate 13 = .ok (.istore_n 3, 1) := by decide +kernel
theorem dX9_nextRate_14 : decode cX9_nextRate 14 = .ok (.aload_n 1, 1) := by decide +kernel
theorem dX9_nextRate_15 : decode cX9_nextRate 15 = .ok (.arraylength, 1) := by decide +kernel
theorem dX9_nextRate_16 : decode cX9_nextRate 16 = .ok (.iconst 1, 1) := by decide +kernel
theorem dX9_nextRate_17 : decode cX9_nextRate 17 = .ok (.iadd, 1) := by decide +kernel
theorem dX9_nextRate_18 : decode cX9_nextRate 18 = .ok (.istore 4, 2) := by decide +kernel
theorem dX9_nextRate_20 : decode cX9_nextRate 20 = .ok (.iconst 1, 1) := by decide +kernel
theorem dX9_nextRate_21 : decode cX9_nextRate 21 = .ok (.istore 5, 2) := by decide +kernel
theorem dX9_nextRate_23 : decode cX9_nextRate 23 = .ok (.iload 5, 2) := by decide +kernel
theorem dX9_nextRate_25 : decode cX9_nextRate 25 = .ok (.bipush 9, 2) := by decide +kernel
theorem dX9_nextRate_27 : decode cX9_nextRate 27 = .ok (.if_icmp .gt 32, 3) := by decide +kernel
theorem dX9_nextRate_30 : decode cX9_nextRate 30 = .ok (.aload_n 1, 1) := by decide +kernel
theorem dX9_nextRate_31 : decode cX9_nextRate 31 = .ok (.iload_n 2, 1) := by decide +kernel
theorem dX9_nextRate_32 : decode cX9_nextRate 32 = .ok (.iload 5, 2) := by decide +kernel
theorem dX9_nextRate_34 : decode cX9_nextRate 34 = .ok (.invokestatic 36, 3) := by decide +kernel
theorem dX9_nextRate_37 : decode cX9_nextRate 37 = .ok (.istore 6, 2) := by decide +kernel
theorem dX9_nextRate_39 : decode cX9_nextRate 39 = .ok (.iload 6, 2) := by decide +kernel
theorem dX9_nextRate_41 : decode cX9_nextRate 41 = .ok (.iload 4, 2) := by decide +kernel
theorem dX9_nextRate_43 : decode cX9_nextRate 43 = .ok (.if_icmp .ge 10, 3) := by decide +kernel
theorem dX9_nextRate_46 : decode cX9_nextRate 46 = .ok (.iload 6, 2) := by decide +kernel
theorem dX9_nextRate_48 : decode cX9_nextRate 48 = .ok (.istore 4, 2) := by decide +kernel
theorem dX9_nextRate_50 : decode cX9_nextRate 50 = .ok (.iload 5, 2) := by decide +kernel
theorem dX9_nextRate_52 : decode cX9_nextRate 52 = .ok (.istore_n 3, 1) := by decide +kernel
theorem dX9_nextRate_53 : decode cX9_nextRate 53 = .ok (.iinc 5 1, 3) := by decide +kernel
theorem dX9_nextRate_56 : decode cX9_nextRate 56 = .ok (.goto (-33), 3) := by decide +kernel
theorem dX9_nextRate_59 : decode cX9_nextRate 59 = .ok (.iload_n 3, 1) := by decide +kernel
theorem dX9_nextRate_60 : decode cX9_nextRate 60 = .ok (.ireturn, 1) := by decide +kernel
set_option maxRecDepth 20000 in
theorem ggX9_mostLeft_X9_has : GoodIn wsX9_mostLeft wsX9_has := goodIn_r _ [8] (by decide +kernel) (by decide +kernel)
set_option maxRecDepth 20000 in
theorem gX9_mostLeft_X9_has : GoodIn wsX9_mostLeft (va_wsS RX9 40 yX9_has wsX9_has) := goodIn_app (goodIn_of _ (by decide +kernel)) ggX9_mostLeft_X9_has
set_option maxRecDepth 20000 in
theorem ggX9_mostLeft_X1_asks : GoodIn wsX9_mostLeft wsX1_asks := goodIn_r _ [14] (by decide +kernel) (by decide +kernel)
set_option maxRecDepth 20000 in
theorem gX9_mostLeft_X1_asks_u26X0 : GoodIn wsX9_mostLeft (va_wsU RX9 26 RX0 "CowsOwed$Clan" ⟨"CowsOwed$Clan", "asks", "(I)I"⟩ yX1_asks wsX1_asks) := goodIn_app (goodIn_of _ (by decide +kernel)) ggX9_mostLeft_X1_asks
set_option maxRecDepth 20000 in
theorem gX9_mostLeft_X1_asks : GoodIn wsX9_mostLeft (wsV RX9 26 RX1 yX1_asks wsX1_asks) := goodIn_app (goodIn_of _ (by decide +kernel)) ggX9_mostLeft_X1_asks
set_option maxRecDepth 20000 in
theorem ggX9_mostLeft_X3_asks : GoodIn wsX9_mostLeft wsX3_asks := goodIn_r _ [21, 22, 23, 24, 25, 26, 27] (by decide +kernel) (by decide +kernel)
set_option maxRecDepth 20000 in
theorem gX9_mostLeft_X3_asks_u26X3 : GoodIn wsX9_mostLeft (va_wsO RX9 26 RX3 "CowsOwed$Clan" ⟨"CowsOwed$Clan", "asks", "(I)I"⟩ yX3_asks wsX3_asks) := goodIn_app (goodIn_of _ (by decide +kernel)) ggX9_mostLeft_X3_asks
set_option maxRecDepth 20000 in
theorem ggX9_mostLeft_X6_asks : GoodIn wsX9_mostLeft wsX6_asks := goodIn_r _ [31, 32, 2, 3, 4] (by decide +kernel) (by decide +kernel)
set_option maxRecDepth 20000 in
theorem gX9_mostLeft_X6_asks_u26X6 : GoodIn wsX9_mostLeft (va_wsO RX9 26 RX6 "CowsOwed$Clan" ⟨"CowsOwed$Clan", "asks", "(I)I"⟩ yX6_asks wsX6_asks) := goodIn_app (goodIn_of _ (by decide +kernel)) ggX9_mostLeft_X6_asks
set_option maxRecDepth 20000 in
theorem ggX9_mostLeft_X7_asks : GoodIn wsX9_mostLeft wsX7_asks := goodIn_r _ [27] (by decide +kernel) (by decide +kernel)
set_option maxRecDepth 20000 in
theorem gX9_mostLeft_X7_asks_u26X7 : GoodIn wsX9_mostLeft (va_wsO RX9 26 RX7 "CowsOwed$Clan" ⟨"CowsOwed$Clan", "asks", "(I)I"⟩ yX7_asks wsX7_asks) := goodIn_app (goodIn_of _ (by decide +kernel)) ggX9_mostLeft_X7_asks
set_option maxRecDepth 20000 in
theorem ggX9_mostLeft_X9_alike : GoodIn wsX9_mostLeft wsX9_alike := goodIn_r _ [36, 5, 6, 7, 8, 9, 10, 11, 12, 13, 14, 15, 16, 17, 18, 19, 20, 21, 22, 23, 24, 25, 26, 27, 28, 29, 30, 31, 32, 2, 3, 4, 33] (by decide +kernel) (by decide +kernel)
set_option maxRecDepth 20000 in
theorem gX9_mostLeft_X9_alike : GoodIn wsX9_mostLeft (va_wsS RX9 44 yX9_alike wsX9_alike) := goodIn_app (goodIn_of _ (by decide +kernel)) ggX9_mostLeft_X9_alike
theorem dX9_mostLeft_0 : decode cX9_mostLeft 0 = .ok (.iconst 0, 1) := by decide +kernel
theorem dX9_mostLeft_1 : decode cX9_mostLeft 1 = .ok (.istore_n 3, 1) := by decide +kernel
theorem dX9_mostLeft_2 : decode cX9_mostLeft 2 = .ok (.iconst 0, 1) := by decide +kernel
theorem dX9_mostLeft_3 : decode cX9_mostLeft 3 = .ok (.istore 4, 2) := by decide +kernel
theorem dX9_mostLeft_5 : decode cX9_mostLeft 5 = .ok (.iload 4, 2) := by decide +kernel
theorem dX9_mostLeft_7 : decode cX9_mostLeft 7 = .ok (.aload_n 0, 1) := by decide +kernel
theorem dX9_mostLeft_8 : decode cX9_mostLeft 8 = .ok (.arraylength, 1) := by decide +kernel
theorem dX9_mostLeft_9 : decode cX9_mostLeft 9 = .ok (.if_icmp .ge 37, 3) := by decide +kernel
theorem dX9_mostLeft_12 : decode cX9_mostLeft 12 = .ok (.iload_n 1, 1) := by decide +kernel
theorem dX9_mostLeft_13 : decode cX9_mostLeft 13 = .ok (.iload 4, 2) := by decide +kernel
theorem dX9_mostLeft_15 : decode cX9_mostLeft 15 = .ok (.invokestatic 40, 3) := by decide +kernel
theorem dX9_mostLeft_18 : decode cX9_mostLeft 18 = .ok (.ifCond .eq 22, 3) := by decide +kernel
theorem dX9_mostLeft_21 : decode cX9_mostLeft 21 = .ok (.iload_n 3, 1) := by decide +kernel
theorem dX9_mostLeft_22 : decode cX9_mostLeft 22 = .ok (.aload_n 0, 1) := by decide +kernel
theorem dX9_mostLeft_23 : decode cX9_mostLeft 23 = .ok (.iload_n 1, 1) := by decide +kernel
theorem dX9_mostLeft_24 : decode cX9_mostLeft 24 = .ok (.iload_n 2, 1) := by decide +kernel
theorem dX9_mostLeft_25 : decode cX9_mostLeft 25 = .ok (.aload_n 0, 1) := by decide +kernel
theorem dX9_mostLeft_26 : decode cX9_mostLeft 26 = .ok (.iload 4, 2) := by decide +kernel
theorem dX9_mostLeft_28 : decode cX9_mostLeft 28 = .ok (.aaload, 1) := by decide +kernel
theorem dX9_mostLeft_29 : decode cX9_mostLeft 29 = .ok (.iload_n 2, 1) := by decide +kernel
theorem dX9_mostLeft_30 : decode cX9_mostLeft 30 = .ok (.invokevirtual 26, 3) := by decide +kernel
theorem dX9_mostLeft_33 : decode cX9_mostLeft 33 = .ok (.invokestatic 44, 3) := by decide +kernel
theorem dX9_mostLeft_36 : decode cX9_mostLeft 36 = .ok (.invokestatic 48, 3) := by decide +kernel
theorem dX9_mostLeft_39 : decode cX9_mostLeft 39 = .ok (.istore_n 3, 1) := by decide +kernel
theorem dX9_mostLeft_40 : decode cX9_mostLeft 40 = .ok (.iinc 4 1, 3) := by decide +kernel
theorem dX9_mostLeft_43 : decode cX9_mostLeft 43 = .ok (.goto (-38), 3) := by decide +kernel
theorem dX9_mostLeft_46 : decode cX9_mostLeft 46 = .ok (.iload_n 3, 1) := by decide +kernel
theorem dX9_mostLeft_47 : decode cX9_mostLeft 47 = .ok (.ireturn, 1) := by decide +kernel
set_option maxRecDepth 20000 in
theorem ggX9_alike_X9_has : GoodIn wsX9_alike wsX9_has := goodIn_r _ [4] (by decide +kernel) (by decide +kernel)
set_option maxRecDepth 20000 in
theorem gX9_alike_X9_has : GoodIn wsX9_alike (va_wsS RX9 40 yX9_has wsX9_has) := goodIn_app (goodIn_of _ (by decide +kernel)) ggX9_alike_X9_has
set_option maxRecDepth 20000 in
theorem ggX9_alike_X1_asks : GoodIn wsX9_alike wsX1_asks := goodIn_r _ [10] (by decide +kernel) (by decide +kernel)
set_option maxRecDepth 20000 in
theorem gX9_alike_X1_asks_u26X0 : GoodIn wsX9_alike (va_wsU RX9 26 RX0 "CowsOwed$Clan" ⟨"CowsOwed$Clan", "asks", "(I)I"⟩ yX1_asks wsX1_asks) := goodIn_app (goodIn_of _ (by decide +kernel)) ggX9_alike_X1_asks
set_option maxRecDepth 20000 in
theorem gX9_alike_X1_asks : GoodIn wsX9_alike (wsV RX9 26 RX1 yX1_asks wsX1_asks) := goodIn_app (goodIn_of _ (by decide +kernel)) ggX9_alike_X1_asks
set_option maxRecDepth 20000 in
theorem ggX9_alike_X3_asks : GoodIn wsX9_alike wsX3_asks := goodIn_r _ [17, 18, 19, 20, 21, 22, 23] (by decide +kernel) (by decide +kernel)
set_option maxRecDepth 20000 in
theorem gX9_alike_X3_asks_u26X3 : GoodIn wsX9_alike (va_wsO RX9 26 RX3 "CowsOwed$Clan" ⟨"CowsOwed$Clan", "asks", "(I)I"⟩ yX3_asks wsX3_asks) := goodIn_app (goodIn_of _ (by decide +kernel)) ggX9_alike_X3_asks
set_option maxRecDepth 20000 in
theorem ggX9_alike_X6_asks : GoodIn wsX9_alike wsX6_asks := goodIn_r _ [27, 28, 29, 30, 31] (by decide +kernel) (by decide +kernel)
set_option maxRecDepth 20000 in
theorem gX9_alike_X6_asks_u26X6 : GoodIn wsX9_alike (va_wsO RX9 26 RX6 "CowsOwed$Clan" ⟨"CowsOwed$Clan", "asks", "(I)I"⟩ yX6_asks wsX6_asks) := goodIn_app (goodIn_of _ (by decide +kernel)) ggX9_alike_X6_asks
set_option maxRecDepth 20000 in
theorem ggX9_alike_X7_asks : GoodIn wsX9_alike wsX7_asks := goodIn_r _ [23] (by decide +kernel) (by decide +kernel)
set_option maxRecDepth 20000 in
theorem gX9_alike_X7_asks_u26X7 : GoodIn wsX9_alike (va_wsO RX9 26 RX7 "CowsOwed$Clan" ⟨"CowsOwed$Clan", "asks", "(I)I"⟩ yX7_asks wsX7_asks) := goodIn_app (goodIn_of _ (by decide +kernel)) ggX9_alike_X7_asks
theorem dX9_alike_0 : decode cX9_alike 0 = .ok (.iconst 0, 1) := by decide +kernel
theorem dX9_alike_1 : decode cX9_alike 1 = .ok (.istore 4, 2) := by decide +kernel
theorem dX9_alike_3 : decode cX9_alike 3 = .ok (.iconst 0, 1) := by decide +kernel
theorem dX9_alike_4 : decode cX9_alike 4 = .ok (.istore 5, 2) := by decide +kernel
theorem dX9_alike_6 : decode cX9_alike 6 = .ok (.iload 5, 2) := by decide +kernel
theorem dX9_alike_8 : decode cX9_alike 8 = .ok (.aload_n 0, 1) := by decide +kernel
theorem dX9_alike_9 : decode cX9_alike 9 = .ok (.arraylength, 1) := by decide +kernel
theorem dX9_alike_10 : decode cX9_alike 10 = .ok (.if_icmp .ge 33, 3) := by decide +kernel
theorem dX9_alike_13 : decode cX9_alike 13 = .ok (.iload_n 1, 1) := by decide +kernel
theorem dX9_alike_14 : decode cX9_alike 14 = .ok (.iload 5, 2) := by decide +kernel
theorem dX9_alike_16 : decode cX9_alike 16 = .ok (.invokestatic 40, 3) := by decide +kernel
theorem dX9_alike_19 : decode cX9_alike 19 = .ok (.ifCond .eq 18, 3) := by decide +kernel
theorem dX9_alike_22 : decode cX9_alike 22 = .ok (.aload_n 0, 1) := by decide +kernel
theorem dX9_alike_23 : decode cX9_alike 23 = .ok (.iload 5, 2) := by decide +kernel
theorem dX9_alike_25 : decode cX9_alike 25 = .ok (.aaload, 1) := by decide +kernel
theorem dX9_alike_26 : decode cX9_alike 26 = .ok (.iload_n 2, 1) := by decide +kernel
theorem dX9_alike_27 : decode cX9_alike 27 = .ok (.invokevirtual 26, 3) := by decide +kernel
theorem dX9_alike_30 : decode cX9_alike 30 = .ok (.iload_n 3, 1) := by decide +kernel
theorem dX9_alike_31 : decode cX9_alike 31 = .ok (.if_icmp .ne 6, 3) := by decide +kernel
theorem dX9_alike_34 : decode cX9_alike 34 = .ok (.iinc 4 1, 3) := by decide +kernel
theorem dX9_alike_37 : decode cX9_alike 37 = .ok (.iinc 5 1, 3) := by decide +kernel
theorem dX9_alike_40 : decode cX9_alike 40 = .ok (.goto (-34), 3) := by decide +kernel
theorem dX9_alike_43 : decode cX9_alike 43 = .ok (.iload 4, 2) := by decide +kernel
theorem dX9_alike_45 : decode cX9_alike 45 = .ok (.ireturn, 1) := by decide +kernel
theorem dX9_has_0 : decode cX9_has 0 = .ok (.iload_n 0, 1) := by decide +kernel
theorem dX9_has_1 : decode cX9_has 1 = .ok (.iload_n 1, 1) := by decide +kernel
theorem dX9_has_2 : decode cX9_has 2 = .ok (.ishr, 1) := by decide +kernel
theorem dX9_has_3 : decode cX9_has 3 = .ok (.iconst 1, 1) := by decide +kernel
theorem dX9_has_4 : decode cX9_has 4 = .ok (.iand, 1) := by decide +kernel
theorem dX9_has_5 : decode cX9_has 5 = .ok (.iconst 1, 1) := by decide +kernel
theorem dX9_has_6 : decode cX9_has 6 = .ok (.if_icmp .ne 7, 3) := by decide +kernel
theorem dX9_has_9 : decode cX9_has 9 = .ok (.iconst 1, 1) := by decide +kernel
theorem dX9_has_10 : decode cX9_has 10 = .ok (.goto 4, 3) := by decide +kernel
theorem dX9_has_13 : decode cX9_has 13 = .ok (.iconst 0, 1) := by decide +kernel
theorem dX9_has_14 : decode cX9_has 14 = .ok (.ireturn, 1) := by decide +kernel
theorem dX10_init_0 : decode cX10_init 0 = .ok (.aload_n 0, 1) := by decide +kernel
theorem dX10_init_1 : decode cX10_init 1 = .ok (.invokespecial 3, 3) := by decide +kernel
theorem dX10_init_4 : decode cX10_init 4 = .ok (.aload_n 0, 1) := by decide +kernel
theorem dX10_init_5 : decode cX10_init 5 = .ok (.bipush 12, 2) := by decide +kernel
theorem dX10_init_7 : decode cX10_init 7 = .ok (.newarray .int, 2) := by decide +kernel
theorem dX10_init_9 : decode cX10_init 9 = .ok (.putfield 9, 3) := by decide +kernel
theorem dX10_init_12 : decode cX10_init 12 = .ok (.aload_n 0, 1) := by decide +kernel
theorem dX10_init_13 : decode cX10_init 13 = .ok (.bipush 12, 2) := by decide +kernel
theorem dX10_init_15 : decode cX10_init 15 = .ok (.newarray .int, 2) := by decide +kernel
theorem dX10_init_17 : decode cX10_init 17 = .ok (.putfield 15, 3) := by decide +kernel
theorem dX10_init_20 : decode cX10_init 20 = .ok (.aload_n 0, 1) := by decide +kernel
theorem dX10_init_21 : decode cX10_init 21 = .ok (.bipush 12, 2) := by decide +kernel
theorem dX10_init_23 : decode cX10_init 23 = .ok (.newarray .int, 2) := by decide +kernel
theorem dX10_init_25 : decode cX10_init 25 = .ok (.putfield 18, 3) := by decide +kernel
theorem dX10_init_28 : decode cX10_init 28 = .ok (.aload_n 0, 1) := by decide +kernel
theorem dX10_init_29 : decode cX10_init 29 = .ok (.bipush 12, 2) := by decide +kernel
theorem dX10_init_31 : decode cX10_init 31 = .ok (.newarray .int, 2) := by decide +kernel
theorem dX10_init_33 : decode cX10_init 33 = .ok (.putfield 21, 3) := by decide +kernel
theorem dX10_init_36 : decode cX10_init 36 = .ok (.aload_n 0, 1) := by decide +kernel
theorem dX10_init_37 : decode cX10_init 37 = .ok (.iconst 0, 1) := by decide +kernel
theorem dX10_init_38 : decode cX10_init 38 = .ok (.putfield 24, 3) := by decide +kernel
theorem dX10_init_41 : decode cX10_init 41 = .ok (.return_, 1) := by decide +kernel
theorem dX10_knows_0 : decode cX10_knows 0 = .ok (.iload_n 1, 1) := by decide +kernel
theorem dX10_knows_1 : decode cX10_knows 1 = .ok (.ifCond .lt 15, 3) := by decide +kernel
theorem dX10_knows_4 : decode cX10_knows 4 = .ok (.iload_n 1, 1) := by decide +kernel
theorem dX10_knows_5 : decode cX10_knows 5 = .ok (.aload_n 0, 1) := by decide +kernel
theorem dX10_knows_6 : decode cX10_knows 6 = .ok (.getfield 24, 3) := by decide +kernel
theorem dX10_knows_9 : decode cX10_knows 9 = .ok (.if_icmp .ge 7, 3) := by decide +kernel
theorem dX10_knows_12 : decode cX10_knows 12 = .ok (.iconst 1, 1) := by decide +kernel
theorem dX10_knows_13 : decode cX10_knows 13 = .ok (.goto 4, 3) := by decide +kernel
theorem dX10_knows_16 : decode cX10_knows 16 = .ok (.iconst 0, 1) := by decide +kernel
theorem dX10_knows_17 : decode cX10_knows 17 = .ok (.ireturn, 1) := by decide +kernel
theorem dX10_note_0 : decode cX10_note 0 = .ok (.aload_n 0, 1) := by decide +kernel
theorem dX10_note_1 : decode cX10_note 1 = .ok (.getfield 9, 3) := by decide +kernel
theorem dX10_note_4 : decode cX10_note 4 = .ok (.aload_n 0, 1) := by decide +kernel
theorem dX10_note_5 : decode cX10_note 5 = .ok (.getfield 24, 3) := by decide +kernel
theorem dX10_note_8 : decode cX10_note 8 = .ok (.iload_n 1, 1) := by decide +kernel
theorem dX10_note_9 : decode cX10_note 9 = .ok (.iastore, 1) := by decide +kernel
theorem dX10_note_10 : decode cX10_note 10 = .ok (.aload_n 0, 1) := by decide +kernel
theorem dX10_note_11 : decode cX10_note 11 = .ok (.getfield 15, 3) := by decide +kernel
theorem dX10_note_14 : decode cX10_note 14 = .ok (.aload_n 0, 1) := by decide +kernel
theorem dX10_note_15 : decode cX10_note 15 = .ok (.getfield 24, 3) := by decide +kernel
theorem dX10_note_18 : decode cX10_note 18 = .ok (.iload_n 2, 1) := by decide +kernel
theorem dX10_note_19 : decode cX10_note 19 = .ok (.iastore, 1) := by decide +kernel
theorem dX10_note_20 : decode cX10_note 20 = .ok (.aload_n 0, 1) := by decide +kernel
theorem dX10_note_21 : decode cX10_note 21 = .ok (.getfield 18, 3) := by decide +kernel
theorem dX10_note_24 : decode cX10_note 24 = .ok (.aload_n 0, 1) := by decide +kernel
theorem dX10_note_25 : decode cX10_note 25 = .ok (.getfield 24, 3) := by decide +kernel
theorem dX10_note_28 : decode cX10_note 28 = .ok (.iload_n 3, 1) := by decide +kernel
theorem dX10_note_29 : decode cX10_note 29 = .ok (.iastore, 1) := by decide +kernel
theorem dX10_note_30 : decode cX10_note 30 = .ok (.aload_n 0, 1) := by decide +kernel
theorem dX10_note_31 : decode cX10_note 31 = .ok (.getfield 21, 3) := by decide +kernel
theorem dX10_note_34 : decode cX10_note 34 = .ok (.aload_n 0, 1) := by decide +kernel
theorem dX10_note_35 : decode cX10_note 35 = .ok (.getfield 24, 3) := by decide +kernel
theorem dX10_note_38 : decode cX10_note 38 = .ok (.iconst 0, 1) := by decide +kernel
theorem dX10_note_39 : decode cX10_note 39 = .ok (.iastore, 1) := by decide +kernel
theorem dX10_note_40 : decode cX10_note 40 = .ok (.aload_n 0, 1) := by decide +kernel
theorem dX10_note_41 : decode cX10_note 41 = .ok (.dup, 1) := by decide +kernel
theorem dX10_note_42 : decode cX10_note 42 = .ok (.getfield 24, 3) := by decide +kernel
theorem dX10_note_45 : decode cX10_note 45 = .ok (.iconst 1, 1) := by decide +kernel
theorem dX10_note_46 : decode cX10_note 46 = .ok (.iadd, 1) := by decide +kernel
theorem dX10_note_47 : decode cX10_note 47 = .ok (.putfield 24, 3) := by decide +kernel
theorem dX10_note_50 : decode cX10_note 50 = .ok (.aload_n 0, 1) := by decide +kernel
theorem dX10_note_51 : decode cX10_note 51 = .ok (.getfield 24, 3) := by decide +kernel
theorem dX10_note_54 : decode cX10_note 54 = .ok (.iconst 1, 1) := by decide +kernel
theorem dX10_note_55 : decode cX10_note 55 = .ok (.isub, 1) := by decide +kernel
theorem dX10_note_56 : decode cX10_note 56 = .ok (.ireturn, 1) := by decide +kernel
theorem dX10_copyFrom_0 : decode cX10_copyFrom 0 = .ok (.aload_n 0, 1) := by decide +kernel
theorem dX10_copyFrom_1 : decode cX10_copyFrom 1 = .ok (.aload_n 1, 1) := by decide +kernel
theorem dX10_copyFrom_2 : decode cX10_copyFrom 2 = .ok (.getfield 24, 3) := by decide +kernel
theorem dX10_copyFrom_5 : decode cX10_copyFrom 5 = .ok (.putfield 24, 3) := by decide +kernel
theorem dX10_copyFrom_8 : decode cX10_copyFrom 8 = .ok (.iconst 0, 1) := by decide +kernel
theorem dX10_copyFrom_9 : decode cX10_copyFrom 9 = .ok (.istore_n 2, 1) := by decide +kernel
theorem dX10_copyFrom_10 : decode cX10_copyFrom 10 = .ok (.iload_n 2, 1) := by decide +kernel
theorem dX10_copyFrom_11 : decode cX10_copyFrom 11 = .ok (.bipush 12, 2) := by decide +kernel
theorem dX10_copyFrom_13 : decode cX10_copyFrom 13 = .ok (.if_icmp .ge 57, 3) := by decide +kernel
theorem dX10_copyFrom_16 : decode cX10_copyFrom 16 = .ok (.aload_n 0, 1) := by decide +kernel
theorem dX10_copyFrom_17 : decode cX10_copyFrom 17 = .ok (.getfield 9, 3) := by decide +kernel
theorem dX10_copyFrom_20 : decode cX10_copyFrom 20 = .ok (.iload_n 2, 1) := by decide +kernel
theorem dX10_copyFrom_21 : decode cX10_copyFrom 21 = .ok (.aload_n 1, 1) := by decide +kernel
theorem dX10_copyFrom_22 : decode cX10_copyFrom 22 = .ok (.getfield 9, 3) := by decide +kernel
theorem dX10_copyFrom_25 : decode cX10_copyFrom 25 = .ok (.iload_n 2, 1) := by decide +kernel
theorem dX10_copyFrom_26 : decode cX10_copyFrom 26 = .ok (.iaload, 1) := by decide +kernel
theorem dX10_copyFrom_27 : decode cX10_copyFrom 27 = .ok (.iastore, 1) := by decide +kernel
theorem dX10_copyFrom_28 : decode cX10_copyFrom 28 = .ok (.aload_n 0, 1) := by decide +kernel
theorem dX10_copyFrom_29 : decode cX10_copyFrom 29 = .ok (.getfield 15, 3) := by decide +kernel
theorem dX10_copyFrom_32 : decode cX10_copyFrom 32 = .ok (.iload_n 2, 1) := by decide +kernel
theorem dX10_copyFrom_33 : decode cX10_copyFrom 33 = .ok (.aload_n 1, 1) := by decide +kernel
theorem dX10_copyFrom_34 : decode cX10_copyFrom 34 = .ok (.getfield 15, 3) := by decide +kernel
theorem dX10_copyFrom_37 : decode cX10_copyFrom 37 = .ok (.iload_n 2, 1) := by decide +kernel
theorem dX10_copyFrom_38 : decode cX10_copyFrom 38 = .ok (.iaload, 1) := by decide +kernel
theorem dX10_copyFrom_39 : decode cX10_copyFrom 39 = .ok (.iastore, 1) := by decide +kernel
theorem dX10_copyFrom_40 : decode cX10_copyFrom 40 = .ok (.aload_n 0, 1) := by decide +kernel
theorem dX10_copyFrom_41 : decode cX10_copyFrom 41 = .ok (.getfield 18, 3) := by decide +kernel
theorem dX10_copyFrom_44 : decode cX10_copyFrom 44 = .ok (.iload_n 2, 1) := by decide +kernel
theorem dX10_copyFrom_45 : decode cX10_copyFrom 45 = .ok (.aload_n 1, 1) := by decide +kernel
theorem dX10_copyFrom_46 : decode cX10_copyFrom 46 = .ok (.getfield 18, 3) := by decide +kernel
theorem dX10_copyFrom_49 : decode cX10_copyFrom 49 = .ok (.iload_n 2, 1) := by decide +kernel
theorem dX10_copyFrom_50 : decode cX10_copyFrom 50 = .ok (.iaload, 1) := by decide +kernel
theorem dX10_copyFrom_51 : decode cX10_copyFrom 51 = .ok (.iastore, 1) := by decide +kernel
theorem dX10_copyFrom_52 : decode cX10_copyFrom 52 = .ok (.aload_n 0, 1) := by decide +kernel
theorem dX10_copyFrom_53 : decode cX10_copyFrom 53 = .ok (.getfield 21, 3) := by decide +kernel
theorem dX10_copyFrom_56 : decode cX10_copyFrom 56 = .ok (.iload_n 2, 1) := by decide +kernel
theorem dX10_copyFrom_57 : decode cX10_copyFrom 57 = .ok (.aload_n 1, 1) := by decide +kernel
theorem dX10_copyFrom_58 : decode cX10_copyFrom 58 = .ok (.getfield 21, 3) := by decide +kernel
theorem dX10_copyFrom_61 : decode cX10_copyFrom 61 = .ok (.iload_n 2, 1) := by decide +kernel
theorem dX10_copyFrom_62 : decode cX10_copyFrom 62 = .ok (.iaload, 1) := by decide +kernel
theorem dX10_copyFrom_63 : decode cX10_copyFrom 63 = .ok (.iastore, 1) := by decide +kernel
theorem dX10_copyFrom_64 : decode cX10_copyFrom 64 = .ok (.iinc 2 1, 3) := by decide +kernel
theorem dX10_copyFrom_67 : decode cX10_copyFrom 67 = .ok (.goto (-57), 3) := by decide +kernel
theorem dX10_copyFrom_70 : decode cX10_copyFrom 70 = .ok (.return_, 1) := by decide +kernel
set_option maxRecDepth 20000 in
theorem ggX11_init_X1_init : GoodIn wsX11_init wsX1_init := goodIn_r _ [37, 38, 2, 3] (by decide +kernel) (by decide +kernel)
set_option maxRecDepth 20000 in
theorem gX11_init_X1_init_n9 : GoodIn wsX11_init (wsX1_init) := ggX11_init_X1_init
set_option maxRecDepth 20000 in
theorem ggX11_init_X7_init : GoodIn wsX11_init wsX7_init := goodIn_r _ [40, 36, 6, 37, 38, 2, 3] (by decide +kernel) (by decide +kernel)
set_option maxRecDepth 20000 in
theorem gX11_init_X7_init_n12 : GoodIn wsX11_init (wsX7_init) := ggX11_init_X7_init
set_option maxRecDepth 20000 in
theorem ggX11_init_X6_init : GoodIn wsX11_init wsX6_init := goodIn_r _ [42, 36, 6, 37, 38, 2, 3] (by decide +kernel) (by decide +kernel)
set_option maxRecDepth 20000 in
theorem gX11_init_X6_init_n15 : GoodIn wsX11_init (wsX6_init) := ggX11_init_X6_init
set_option maxRecDepth 20000 in
theorem ggX11_init_X0_init : GoodIn wsX11_init wsX0_init := goodIn_r _ [44, 36, 6, 37, 38, 2, 3] (by decide +kernel) (by decide +kernel)
set_option maxRecDepth 20000 in
theorem gX11_init_X0_init_n18 : GoodIn wsX11_init (wsX0_init) := ggX11_init_X0_init
set_option maxRecDepth 20000 in
theorem ggX11_init_X3_init : GoodIn wsX11_init wsX3_init := goodIn_r _ [46, 39, 9, 40, 36, 6, 37, 38, 2, 3] (by decide +kernel) (by decide +kernel)
set_option maxRecDepth 20000 in
theorem gX11_init_X3_init_n21 : GoodIn wsX11_init (wsX3_init) := ggX11_init_X3_init
set_option maxRecDepth 20000 in
theorem ggX11_init_X4_init : GoodIn wsX11_init wsX4_init := goodIn_r _ [48, 49, 2, 3, 50, 51, 52, 114, 115] (by decide +kernel) (by decide +kernel)
set_option maxRecDepth 20000 in
theorem gX11_init_X4_init_n33 : GoodIn wsX11_init (wsX4_init) := ggX11_init_X4_init
set_option maxRecDepth 20000 in
theorem ggX11_init_X8_init : GoodIn wsX11_init wsX8_init := goodIn_r _ [55, 56, 2, 3, 57, 58, 59, 60, 61, 62, 63, 64, 65, 66, 67, 68, 69, 70, 31, 32, 71, 72, 73, 74, 50, 75, 76, 77, 78, 79, 80, 81, 82, 83, 84, 85, 86, 87, 88, 89, 90, 91, 92, 93, 94, 95, 96, 97, 98, 99, 100, 101, 102, 103, 104, 126, 127, 128, 129, 130, 116, 117, 118, 119, 120, 131, 132, 133, 134, 135, 136, 137, 138, 139, 121, 122, 123, 124, 125] (by decide +kernel) (by decide +kernel)
set_option maxRecDepth 20000 in
theorem gX11_init_X8_init : GoodIn wsX11_init (wsX8_init) := ggX11_init_X8_init
set_option maxRecDepth 20000 in
theorem ggX11_init_X2_init : GoodIn wsX11_init wsX2_init := goodIn_r _ [97, 98, 2, 3, 50, 99, 100, 101, 102, 103, 104, 121, 122, 123, 124, 125] (by decide +kernel) (by decide +kernel)
set_option maxRecDepth 20000 in
theorem gX11_init_X2_init : GoodIn wsX11_init (wsX2_init) := ggX11_init_X2_init
theorem dX11_init_0 : decode cX11_init 0 = .ok (.aload_n 0, 1) := by decide +kernel
theorem dX11_init_1 : decode cX11_init 1 = .ok (.invokespecial 1, 3) := by decide +kernel
theorem dX11_init_4 : decode cX11_init 4 = .ok (.new 7, 3) := by decide +kernel
theorem dX11_init_7 : decode cX11_init 7 = .ok (.dup, 1) := by decide +kernel
theorem dX11_init_8 : decode cX11_init 8 = .ok (.invokespecial 9, 3) := by decide +kernel
theorem dX11_init_11 : decode cX11_init 11 = .ok (.astore_n 1, 1) := by decide +kernel
theorem dX11_init_12 : decode cX11_init 12 = .ok (.aload_n 0, 1) := by decide +kernel
theorem dX11_init_13 : decode cX11_init 13 = .ok (.iconst 5, 1) := by decide +kernel
theorem dX11_init_14 : decode cX11_init 14 = .ok (.anewarray 7, 3) := by decide +kernel
theorem dX11_init_17 : decode cX11_init 17 = .ok (.dup, 1) := by decide +kernel
theorem dX11_init_18 : decode cX11_init 18 = .ok (.iconst 0, 1) := by decide +kernel
theorem dX11_init_19 : decode cX11_init 19 = .ok (.aload_n 1, 1) := by decide +kernel
theorem dX11_init_20 : decode cX11_init 20 = .ok (.aastore, 1) := by decide +kernel
theorem dX11_init_21 : decode cX11_init 21 = .ok (.dup, 1) := by decide +kernel
theorem dX11_init_22 : decode cX11_init 22 = .ok (.iconst 1, 1) := by decide +kernel
theorem dX11_init_23 : decode cX11_init 23 = .ok (.new 10, 3) := by decide +kernel
theorem dX11_init_26 : decode cX11_init 26 = .ok (.dup, 1) := by decide +kernel
theorem dX11_init_27 : decode cX11_init 27 = .ok (.invokespecial 12, 3) := by decide +kernel
theorem dX11_init_30 : decode cX11_init 30 = .ok (.aastore, 1) := by decide +kernel
theorem dX11_init_31 : decode cX11_init 31 = .ok (.dup, 1) := by decide +kernel
theorem dX11_init_32 : decode cX11_init 32 = .ok (.iconst 2, 1) := by decide +kernel
theorem dX11_init_33 : decode cX11_init 33 = .ok (.new 13, 3) := by decide +kernel
theorem dX11_init_36 : decode cX11_init 36 = .ok (.dup, 1) := by decide +kernel
theorem dX11_init_37 : decode cX11_init 37 = .ok (.invokespecial 15, 3) := by decide +kernel
theorem dX11_init_40 : decode cX11_init 40 = .ok (.aastore, 1) := by decide +kernel
theorem dX11_init_41 : decode cX11_init 41 = .ok (.dup, 1) := by decide +kernel
theorem dX11_init_42 : decode cX11_init 42 = .ok (.iconst 3, 1) := by decide +kernel
theorem dX11_init_43 : decode cX11_init 43 = .ok (.new 16, 3) := by decide +kernel
theorem dX11_init_46 : decode cX11_init 46 = .ok (.dup, 1) := by decide +kernel
theorem dX11_init_47 : decode cX11_init 47 = .ok (.invokespecial 18, 3) := by decide +kernel
theorem dX11_init_50 : decode cX11_init 50 = .ok (.aastore, 1) := by decide +kernel
theorem dX11_init_51 : decode cX11_init 51 = .ok (.dup, 1) := by decide +kernel
theorem dX11_init_52 : decode cX11_init 52 = .ok (.iconst 4, 1) := by decide +kernel
theorem dX11_init_53 : decode cX11_init 53 = .ok (.new 19, 3) := by decide +kernel
theorem dX11_init_56 : decode cX11_init 56 = .ok (.dup, 1) := by decide +kernel
theorem dX11_init_57 : decode cX11_init 57 = .ok (.invokespecial 21, 3) := by decide +kernel
theorem dX11_init_60 : decode cX11_init 60 = .ok (.aastore, 1) := by decide +kernel
theorem dX11_init_61 : decode cX11_init 61 = .ok (.putfield 22, 3) := by decide +kernel
theorem dX11_init_64 : decode cX11_init 64 = .ok (.aload_n 0, 1) := by decide +kernel
theorem dX11_init_65 : decode cX11_init 65 = .ok (.iconst 4, 1) := by decide +kernel
theorem dX11_init_66 : decode cX11_init 66 = .ok (.anewarray 7, 3) := by decide +kernel
theorem dX11_init_69 : decode cX11_init 69 = .ok (.dup, 1) := by decide +kernel
theorem dX11_init_70 : decode cX11_init 70 = .ok (.iconst 0, 1) := by decide +kernel
theorem dX11_init_71 : decode cX11_init 71 = .ok (.aload_n 1, 1) := by decide +kernel
theorem dX11_init_72 : decode cX11_init 72 = .ok (.aastore, 1) := by decide +kernel
theorem dX11_init_73 : decode cX11_init 73 = .ok (.dup, 1) := by decide +kernel
theorem dX11_init_74 : decode cX11_init 74 = .ok (.iconst 1, 1) := by decide +kernel
theorem dX11_init_75 : decode cX11_init 75 = .ok (.aload_n 1, 1) := by decide +kernel
theorem dX11_init_76 : decode cX11_init 76 = .ok (.aastore, 1) := by decide +kernel
theorem dX11_init_77 : decode cX11_init 77 = .ok (.dup, 1) := by decide +kernel
theorem dX11_init_78 : decode cX11_init 78 = .ok (.iconst 2, 1) := by decide +kernel
theorem dX11_init_79 : decode cX11_init 79 = .ok (.aload_n 1, 1) := by decide +kernel
theorem dX11_init_80 : decode cX11_init 80 = .ok (.aastore, 1) := by decide +kernel
theorem dX11_init_81 : decode cX11_init 81 = .ok (.dup, 1) := by decide +kernel
theorem dX11_init_82 : decode cX11_init 82 = .ok (.iconst 3, 1) := by decide +kernel
theorem dX11_init_83 : decode cX11_init 83 = .ok (.aload_n 1, 1) := by decide +kernel
theorem dX11_init_84 : decode cX11_init 84 = .ok (.aastore, 1) := by decide +kernel
theorem dX11_init_85 : decode cX11_init 85 = .ok (.putfield 28, 3) := by decide +kernel
theorem dX11_init_88 : decode cX11_init 88 = .ok (.aload_n 0, 1) := by decide +kernel
theorem dX11_init_89 : decode cX11_init 89 = .ok (.new 31, 3) := by decide +kernel
theorem dX11_init_92 : decode cX11_init 92 = .ok (.dup, 1) := by decide +kernel
theorem dX11_init_93 : decode cX11_init 93 = .ok (.invokespecial 33, 3) := by decide +kernel
theorem dX11_init_96 : decode cX11_init 96 = .ok (.putfield 34, 3) := by decide +kernel
theorem dX11_init_99 : decode cX11_init 99 = .ok (.aload_n 0, 1) := by decide +kernel
theorem dX11_init_100 : decode cX11_init 100 = .ok (.new 38, 3) := by decide +kernel
theorem dX11_init_103 : decode cX11_init 103 = .ok (.dup, 1) := by decide +kernel
theorem dX11_init_104 : decode cX11_init 104 = .ok (.aload_n 0, 1) := by decide +kernel
theorem dX11_init_105 : decode cX11_init 105 = .ok (.getfield 28, 3) := by decide +kernel
theorem dX11_init_108 : decode cX11_init 108 = .ok (.invokespecial 40, 3) := by decide +kernel
theorem dX11_init_111 : decode cX11_init 111 = .ok (.putfield 43, 3) := by decide +kernel
theorem dX11_init_114 : decode cX11_init 114 = .ok (.aload_n 0, 1) := by decide +kernel
theorem dX11_init_115 : decode cX11_init 115 = .ok (.new 38, 3) := by decide +kernel
theorem dX11_init_118 : decode cX11_init 118 = .ok (.dup, 1) := by decide +kernel
theorem dX11_init_119 : decode cX11_init 119 = .ok (.aload_n 0, 1) := by decide +kernel
theorem dX11_init_120 : decode cX11_init 120 = .ok (.getfield 28, 3) := by decide +kernel
theorem dX11_init_123 : decode cX11_init 123 = .ok (.invokespecial 40, 3) := by decide +kernel
theorem dX11_init_126 : decode cX11_init 126 = .ok (.putfield 47, 3) := by decide +kernel
theorem dX11_init_129 : decode cX11_init 129 = .ok (.aload_n 0, 1) := by decide +kernel
theorem dX11_init_130 : decode cX11_init 130 = .ok (.new 50, 3) := by decide +kernel
theorem dX11_init_133 : decode cX11_init 133 = .ok (.dup, 1) := by decide +kernel
theorem dX11_init_134 : decode cX11_init 134 = .ok (.aload_n 0, 1) := by decide +kernel
theorem dX11_init_135 : decode cX11_init 135 = .ok (.getfield 28, 3) := by decide +kernel
theorem dX11_init_138 : decode cX11_init 138 = .ok (.invokespecial 52, 3) := by decide +kernel
theorem dX11_init_141 : decode cX11_init 141 = .ok (.putfield 53, 3) := by decide +kernel
theorem dX11_init_144 : decode cX11_init 144 = .ok (.aload_n 0, 1) := by decide +kernel
theorem dX11_init_145 : decode cX11_init 145 = .ok (.iconst 0, 1) := by decide +kernel
theorem dX11_init_146 : decode cX11_init 146 = .ok (.putfield 57, 3) := by decide +kernel
theorem dX11_init_149 : decode cX11_init 149 = .ok (.aload_n 0, 1) := by decide +kernel
theorem dX11_init_150 : decode cX11_init 150 = .ok (.iconst 0, 1) := by decide +kernel
theorem dX11_init_151 : decode cX11_init 151 = .ok (.putfield 61, 3) := by decide +kernel
theorem dX11_init_154 : decode cX11_init 154 = .ok (.return_, 1) := by decide +kernel
set_option maxRecDepth 20000 in
theorem ggX11_letter_X4_put : GoodIn wsX11_letter wsX4_put := goodIn_r _ [7, 8, 9, 18, 19] (by decide +kernel) (by decide +kernel)
set_option maxRecDepth 20000 in
theorem gX11_letter_X4_put : GoodIn wsX11_letter (wsV RX11 68 RX4 yX4_put wsX4_put) := goodIn_app (goodIn_of _ (by decide +kernel)) ggX11_letter_X4_put
theorem dX11_letter_0 : decode cX11_letter 0 = .ok (.iload_n 1, 1) := by decide +kernel
theorem dX11_letter_1 : decode cX11_letter 1 = .ok (.iconst 1, 1) := by decide +kernel
theorem dX11_letter_2 : decode cX11_letter 2 = .ok (.if_icmp .lt 9, 3) := by decide +kernel
theorem dX11_letter_5 : decode cX11_letter 5 = .ok (.iload_n 1, 1) := by decide +kernel
theorem dX11_letter_6 : decode cX11_letter 6 = .ok (.bipush 126, 2) := by decide +kernel
theorem dX11_letter_8 : decode cX11_letter 8 = .ok (.if_icmp .le 6, 3) := by decide +kernel
theorem dX11_letter_11 : decode cX11_letter 11 = .ok (.bipush (-102), 2) := by decide +kernel
theorem dX11_letter_13 : decode cX11_letter 13 = .ok (.ireturn, 1) := by decide +kernel
theorem dX11_letter_14 : decode cX11_letter 14 = .ok (.aload_n 0, 1) := by decide +kernel
theorem dX11_letter_15 : decode cX11_letter 15 = .ok (.getfield 34, 3) := by decide +kernel
theorem dX11_letter_18 : decode cX11_letter 18 = .ok (.getfield 65, 3) := by decide +kernel
theorem dX11_letter_21 : decode cX11_letter 21 = .ok (.bipush 16, 2) := by decide +kernel
theorem dX11_letter_23 : decode cX11_letter 23 = .ok (.if_icmp .lt 6, 3) := by decide +kernel
theorem dX11_letter_26 : decode cX11_letter 26 = .ok (.bipush (-104), 2) := by decide +kernel
theorem dX11_letter_28 : decode cX11_letter 28 = .ok (.ireturn, 1) := by decide +kernel
theorem dX11_letter_29 : decode cX11_letter 29 = .ok (.aload_n 0, 1) := by decide +kernel
theorem dX11_letter_30 : decode cX11_letter 30 = .ok (.getfield 34, 3) := by decide +kernel
theorem dX11_letter_33 : decode cX11_letter 33 = .ok (.iload_n 1, 1) := by decide +kernel
theorem dX11_letter_34 : decode cX11_letter 34 = .ok (.invokevirtual 68, 3) := by decide +kernel
theorem dX11_letter_37 : decode cX11_letter 37 = .ok (.ireturn, 1) := by decide +kernel
theorem dX11_blank_0 : decode cX11_blank 0 = .ok (.aload_n 0, 1) := by decide +kernel
theorem dX11_blank_1 : decode cX11_blank 1 = .ok (.getfield 34, 3) := by decide +kernel
theorem dX11_blank_4 : decode cX11_blank 4 = .ok (.getfield 65, 3) := by decide +kernel
theorem dX11_blank_7 : decode cX11_blank 7 = .ok (.istore_n 1, 1) := by decide +kernel
theorem dX11_blank_8 : decode cX11_blank 8 = .ok (.aload_n 0, 1) := by decide +kernel
theorem dX11_blank_9 : decode cX11_blank 9 = .ok (.getfield 34, 3) := by decide +kernel
theorem dX11_blank_12 : decode cX11_blank 12 = .ok (.iconst 0, 1) := by decide +kernel
theorem dX11_blank_13 : decode cX11_blank 13 = .ok (.putfield 65, 3) := by decide +kernel
theorem dX11_blank_16 : decode cX11_blank 16 = .ok (.iload_n 1, 1) := by decide +kernel
theorem dX11_blank_17 : decode cX11_blank 17 = .ok (.ireturn, 1) := by decide +kernel
set_option maxRecDepth 20000 in
theorem ggX11_fault_X4_firstFault : GoodIn wsX11_fault wsX4_firstFault := goodIn_r _ [6, 7, 8, 9, 10, 5, 11, 12, 13, 14, 15, 16, 17, 18, 19, 20, 21, 22, 23, 24, 25, 26, 27, 28, 29, 30, 31, 32, 33, 34, 35, 36, 37, 38, 39, 40, 41, 42, 43, 44, 45, 46, 47, 48, 49, 50, 51, 52, 53, 54, 55, 56, 57, 58, 59, 60, 61, 62, 63, 64, 65, 66, 67, 68, 69, 70, 71, 72, 73, 74, 75, 76, 77, 78, 79, 80, 81, 82, 83, 84, 85, 86, 87, 88, 89, 90, 91, 92, 93, 94, 95, 96, 97, 98, 99, 100, 101, 102, 103, 104, 105, 106, 115, 116] (by decide +kernel) (by decide +kernel)
set_option maxRecDepth 20000 in
theorem gX11_fault_X4_firstFault : GoodIn wsX11_fault (wsV RX11 72 RX4 yX4_firstFault wsX4_firstFault) := goodIn_app (goodIn_of _ (by decide +kernel)) ggX11_fault_X4_firstFault
theorem dX11_fault_0 : decode cX11_fault 0 = .ok (.aload_n 0, 1) := by decide +kernel
theorem dX11_fault_1 : decode cX11_fault 1 = .ok (.getfield 34, 3) := by decide +kernel
theorem dX11_fault_4 : decode cX11_fault 4 = .ok (.invokevirtual 72, 3) := by decide +kernel
theorem dX11_fault_7 : decode cX11_fault 7 = .ok (.ireturn, 1) := by decide +kernel
set_option maxRecDepth 20000 in
theorem ggX11_hills_X4_isHills : GoodIn wsX11_hills wsX4_isHills := goodIn_r _ [13, 14, 15, 16, 17, 18, 12, 19, 20, 21, 22, 23, 24, 25, 26, 27, 28, 29, 30, 31, 32, 33, 34, 35, 36, 37, 38, 39, 40, 41, 42, 43, 44, 45, 46, 47, 48, 49, 50, 51, 52, 53, 54, 55, 56, 57, 58, 59, 60, 61, 62, 63, 64, 65, 66, 67, 68, 69, 70, 71, 72, 73, 74, 75, 76, 77, 78, 79, 80, 81, 82, 83, 84, 85, 86, 87, 88, 89, 90, 91, 92, 93, 94, 95, 96, 97, 98, 99, 100, 101, 102, 103, 104, 105, 106, 107, 108, 109, 110, 111, 112, 113, 114, 115, 116, 117, 180, 181] (by decide +kernel) (by decide +kernel)
set_option maxRecDepth 20000 in
theorem gX11_hills_X4_isHills : GoodIn wsX11_hills (wsV RX11 76 RX4 yX4_isHills wsX4_isHills) := goodIn_app (goodIn_of _ (by decide +kernel)) ggX11_hills_X4_isHills
set_option maxRecDepth 20000 in
theorem ggX11_hills_X4_clanCount : GoodIn wsX11_hills wsX4_clanCount := goodIn_r _ [121, 14, 180, 181] (by decide +kernel) (by decide +kernel)
set_option maxRecDepth 20000 in
theorem gX11_hills_X4_clanCount : GoodIn wsX11_hills (wsV RX11 80 RX4 yX4_clanCount wsX4_clanCount) := goodIn_app (goodIn_of _ (by decide +kernel)) ggX11_hills_X4_clanCount
set_option maxRecDepth 20000 in
theorem ggX11_hills_X4_rateDigit : GoodIn wsX11_hills wsX4_rateDigit := goodIn_r _ [125, 14, 15, 180, 181] (by decide +kernel) (by decide +kernel)
set_option maxRecDepth 20000 in
theorem gX11_hills_X4_rateDigit : GoodIn wsX11_hills (wsV RX11 83 RX4 yX4_rateDigit wsX4_rateDigit) := goodIn_app (goodIn_of _ (by decide +kernel)) ggX11_hills_X4_rateDigit
set_option maxRecDepth 20000 in
theorem ggX11_hills_X8_begin : GoodIn wsX11_hills wsX8_begin := goodIn_r _ [130, 131, 132, 133, 134, 135, 136, 137, 138, 139, 140, 141, 142, 143, 144, 145, 146, 147, 170, 171, 172, 173, 174, 182, 183, 184, 185, 186, 187, 188, 189, 190, 191, 192, 193, 194, 195, 175, 176, 177, 178, 179] (by decide +kernel) (by decide +kernel)
set_option maxRecDepth 20000 in
theorem gX11_hills_X8_begin : GoodIn wsX11_hills (wsV RX11 86 RX8 yX8_begin wsX8_begin) := goodIn_app (goodIn_of _ (by decide +kernel)) ggX11_hills_X8_begin
set_option maxRecDepth 20000 in
theorem ggX11_hills_X4_kindOf : GoodIn wsX11_hills wsX4_kindOf := goodIn_r _ [151, 15, 23, 24, 12, 25, 26, 27, 28, 29, 30, 31, 32, 33, 34, 35, 36, 37, 38, 39, 40, 41, 42, 43, 44, 45, 46, 47, 48, 49, 50, 51, 52, 53, 54, 55, 56, 57, 58, 59, 60, 61, 62, 63, 64, 65, 66, 67, 68, 69, 70, 71, 72, 73, 74, 75, 76, 77, 78, 79, 80, 81, 82, 83, 84, 85, 86, 87, 88, 89, 90, 91, 92, 93, 94, 95, 96, 97, 98, 99, 100, 101, 102, 103, 104, 105, 106, 107, 108, 109, 110, 111, 112, 113, 114, 180, 181] (by decide +kernel) (by decide +kernel)
set_option maxRecDepth 20000 in
theorem gX11_hills_X4_kindOf : GoodIn wsX11_hills (wsV RX11 90 RX4 yX4_kindOf wsX4_kindOf) := goodIn_app (goodIn_of _ (by decide +kernel)) ggX11_hills_X4_kindOf
set_option maxRecDepth 20000 in
theorem ggX11_hills_X11_kindAt : GoodIn wsX11_hills wsX11_kindAt := goodIn_r _ [156, 157, 162, 163, 164, 165, 166, 167, 168, 169] (by decide +kernel) (by decide +kernel)
set_option maxRecDepth 20000 in
theorem gX11_hills_X11_kindAt : GoodIn wsX11_hills (wsV RX11 93 RX11 yX11_kindAt wsX11_kindAt) := goodIn_app (goodIn_of _ (by decide +kernel)) ggX11_hills_X11_kindAt
set_option maxRecDepth 20000 in
theorem ggX11_hills_X4_herdOf : GoodIn wsX11_hills wsX4_herdOf := goodIn_r _ [161, 15, 180, 181] (by decide +kernel) (by decide +kernel)
set_option maxRecDepth 20000 in
theorem gX11_hills_X4_herdOf : GoodIn wsX11_hills (wsV RX11 104 RX4 yX4_herdOf wsX4_herdOf) := goodIn_app (goodIn_of _ (by decide +kernel)) ggX11_hills_X4_herdOf
theorem dX11_hills_0 : decode cX11_hills 0 = .ok (.aload_n 0, 1) := by decide +kernel
theorem dX11_hills_1 : decode cX11_hills 1 = .ok (.getfield 34, 3) := by decide +kernel
theorem dX11_hills_4 : decode cX11_hills 4 = .ok (.invokevirtual 76, 3) := by decide +kernel
theorem dX11_hills_7 : decode cX11_hills 7 = .ok (.ifCond .ne 6, 3) := by decide +kernel
theorem dX11_hills_10 : decode cX11_hills 10 = .ok (.bipush (-103), 2) := by decide +kernel
theorem dX11_hills_12 : decode cX11_hills 12 = .ok (.ireturn, 1) := by decide +kernel
theorem dX11_hills_13 : decode cX11_hills 13 = .ok (.aload_n 0, 1) := by decide +kernel
theorem dX11_hills_14 : decode cX11_hills 14 = .ok (.getfield 34, 3) := by decide +kernel
theorem dX11_hills_17 : decode cX11_hills 17 = .ok (.invokevirtual 80, 3) := by decide +kernel
theorem dX11_hills_20 : decode cX11_hills 20 = .ok (.istore_n 1, 1) := by decide +kernel
theorem dX11_hills_21 : decode cX11_hills 21 = .ok (.aload_n 0, 1) := by decide +kernel
theorem dX11_hills_22 : decode cX11_hills 22 = .ok (.getfield 43, 3) := by decide +kernel
theorem dX11_hills_25 : decode cX11_hills 25 = .ok (.iload_n 1, 1) := by decide +kernel
theorem dX11_hills_26 : decode cX11_hills 26 = .ok (.aload_n 0, 1) := by decide +kernel
theorem dX11_hills_27 : decode cX11_hills 27 = .ok (.getfield 34, 3) := by decide +kernel
theorem dX11_hills_30 : decode cX11_hills 30 = .ok (.invokevirtual 83, 3) := by decide +kernel
theorem dX11_hills_33 : decode cX11_hills 33 = .ok (.invokevirtual 86, 3) := by decide +kernel
theorem dX11_hills_36 : decode cX11_hills 36 = .ok (.iconst 0, 1) := by decide +kernel
theorem dX11_hills_37 : decode cX11_hills 37 = .ok (.istore_n 2, 1) := by decide +kernel
theorem dX11_hills_38 : decode cX11_hills 38 = .ok (.iload_n 2, 1) := by decide +kernel
theorem dX11_hills_39 : decode cX11_hills 39 = .ok (.iload_n 1, 1) := by decide +kernel
theorem dX11_hills_40 : decode cX11_hills 40 = .ok (.if_icmp .ge 47, 3) := by decide +kernel
theorem dX11_hills_43 : decode cX11_hills 43 = .ok (.aload_n 0, 1) := by decide +kernel
theorem dX11_hills_44 : decode cX11_hills 44 = .ok (.getfield 28, 3) := by decide +kernel
theorem dX11_hills_47 : decode cX11_hills 47 = .ok (.iload_n 2, 1) := by decide +kernel
theorem dX11_hills_48 : decode cX11_hills 48 = .ok (.aload_n 0, 1) := by decide +kernel
theorem dX11_hills_49 : decode cX11_hills 49 = .ok (.aload_n 0, 1) := by decide +kernel
theorem dX11_hills_50 : decode cX11_hills 50 = .ok (.getfield 34, 3) := by decide +kernel
theorem dX11_hills_53 : decode cX11_hills 53 = .ok (.iload_n 2, 1) := by decide +kernel
theorem dX11_hills_54 : decode cX11_hills 54 = .ok (.invokevirtual 90, 3) := by decide +kernel
theorem dX11_hills_57 : decode cX11_hills 57 = .ok (.invokevirtual 93, 3) := by decide +kernel
theorem dX11_hills_60 : decode cX11_hills 60 = .ok (.aastore, 1) := by decide +kernel
theorem dX11_hills_61 : decode cX11_hills 61 = .ok (.aload_n 0, 1) := by decide +kernel
theorem dX11_hills_62 : decode cX11_hills 62 = .ok (.getfield 43, 3) := by decide +kernel
theorem dX11_hills_65 : decode cX11_hills 65 = .ok (.getfield 97, 3) := by decide +kernel
theorem dX11_hills_68 : decode cX11_hills 68 = .ok (.getfield 100, 3) := by decide +kernel
theorem dX11_hills_71 : decode cX11_hills 71 = .ok (.iload_n 2, 1) := by decide +kernel
theorem dX11_hills_72 : decode cX11_hills 72 = .ok (.aload_n 0, 1) := by decide +kernel
theorem dX11_hills_73 : decode cX11_hills 73 = .ok (.getfield 34, 3) := by decide +kernel
theorem dX11_hills_76 : decode cX11_hills 76 = .ok (.iload_n 2, 1) := by decide +kernel
theorem dX11_hills_77 : decode cX11_hills 77 = .ok (.invokevirtual 104, 3) := by decide +kernel
theorem dX11_hills_80 : decode cX11_hills 80 = .ok (.iastore, 1) := by decide +kernel
theorem dX11_hills_81 : decode cX11_hills 81 = .ok (.iinc 2 1, 3) := by decide +kernel
theorem dX11_hills_84 : decode cX11_hills 84 = .ok (.goto (-46), 3) := by decide +kernel
theorem dX11_hills_87 : decode cX11_hills 87 = .ok (.aload_n 0, 1) := by decide +kernel
theorem dX11_hills_88 : decode cX11_hills 88 = .ok (.getfield 34, 3) := by decide +kernel
theorem dX11_hills_91 : decode cX11_hills 91 = .ok (.iconst 0, 1) := by decide +kernel
theorem dX11_hills_92 : decode cX11_hills 92 = .ok (.putfield 65, 3) := by decide +kernel
theorem dX11_hills_95 : decode cX11_hills 95 = .ok (.aload_n 0, 1) := by decide +kernel
theorem dX11_hills_96 : decode cX11_hills 96 = .ok (.iconst 0, 1) := by decide +kernel
theorem dX11_hills_97 : decode cX11_hills 97 = .ok (.putfield 57, 3) := by decide +kernel
theorem dX11_hills_100 : decode cX11_hills 100 = .ok (.aload_n 0, 1) := by decide +kernel
theorem dX11_hills_101 : decode cX11_hills 101 = .ok (.dup, 1) := by decide +kernel
theorem dX11_hills_102 : decode cX11_hills 102 = .ok (.getfield 61, 3) := by decide +kernel
theorem dX11_hills_105 : decode cX11_hills 105 = .ok (.iconst 1, 1) := by decide +kernel
theorem dX11_hills_106 : decode cX11_hills 106 = .ok (.iadd, 1) := by decide +kernel
theorem dX11_hills_107 : decode cX11_hills 107 = .ok (.putfield 61, 3) := by decide +kernel
theorem dX11_hills_110 : decode cX11_hills 110 = .ok (.iload_n 1, 1) := by decide +kernel
theorem dX11_hills_111 : decode cX11_hills 111 = .ok (.ireturn, 1) := by decide +kernel
set_option maxRecDepth 20000 in
theorem ggX11_clan_X2_knows : GoodIn wsX11_clan wsX2_knows := goodIn_r _ [10, 11, 106, 107, 108, 109, 110] (by decide +kernel) (by decide +kernel)
set_option maxRecDepth 20000 in
theorem gX11_clan_X2_knows : GoodIn wsX11_clan (wsV RX11 107 RX2 yX2_knows wsX2_knows) := goodIn_app (goodIn_of _ (by decide +kernel)) ggX11_clan_X2_knows
set_option maxRecDepth 20000 in
theorem ggX11_clan_X0_number : GoodIn wsX11_clan wsX0_number := goodIn_r _ [18] (by decide +kernel) (by decide +kernel)
set_option maxRecDepth 20000 in
theorem gX11_clan_X0_number_u115X0 : GoodIn wsX11_clan (va_wsO RX11 115 RX0 "CowsOwed$Clan" ⟨"CowsOwed$Clan", "number", "()I"⟩ yX0_number wsX0_number) := goodIn_app (goodIn_of _ (by decide +kernel)) ggX11_clan_X0_number
set_option maxRecDepth 20000 in
theorem ggX11_clan_X1_number : GoodIn wsX11_clan wsX1_number := goodIn_r _ [19] (by decide +kernel) (by decide +kernel)
set_option maxRecDepth 20000 in
theorem gX11_clan_X1_number : GoodIn wsX11_clan (wsV RX11 115 RX1 yX1_number wsX1_number) := goodIn_app (goodIn_of _ (by decide +kernel)) ggX11_clan_X1_number
set_option maxRecDepth 20000 in
theorem ggX11_clan_X3_number : GoodIn wsX11_clan wsX3_number := goodIn_r _ [27] (by decide +kernel) (by decide +kernel)
set_option maxRecDepth 20000 in
theorem gX11_clan_X3_number_u115X3 : GoodIn wsX11_clan (va_wsO RX11 115 RX3 "CowsOwed$Clan" ⟨"CowsOwed$Clan", "number", "()I"⟩ yX3_number wsX3_number) := goodIn_app (goodIn_of _ (by decide +kernel)) ggX11_clan_X3_number
set_option maxRecDepth 20000 in
theorem ggX11_clan_X6_number : GoodIn wsX11_clan wsX6_number := goodIn_r _ [31] (by decide +kernel) (by decide +kernel)
set_option maxRecDepth 20000 in
theorem gX11_clan_X6_number_u115X6 : GoodIn wsX11_clan (va_wsO RX11 115 RX6 "CowsOwed$Clan" ⟨"CowsOwed$Clan", "number", "()I"⟩ yX6_number wsX6_number) := goodIn_app (goodIn_of _ (by decide +kernel)) ggX11_clan_X6_number
set_option maxRecDepth 20000 in
theorem ggX11_clan_X7_number : GoodIn wsX11_clan wsX7_number := goodIn_r _ [35] (by decide +kernel) (by decide +kernel)
set_option maxRecDepth 20000 in
theorem gX11_clan_X7_number_u115X7 : GoodIn wsX11_clan (va_wsO RX11 115 RX7 "CowsOwed$Clan" ⟨"CowsOwed$Clan", "number", "()I"⟩ yX7_number wsX7_number) := goodIn_app (goodIn_of _ (by decide +kernel)) ggX11_clan_X7_number
set_option maxRecDepth 20000 in
theorem ggX11_clan_X2_askedBy : GoodIn wsX11_clan wsX2_askedBy := goodIn_r _ [39, 40, 41, 42, 43, 44, 45, 23, 46, 47, 48, 49, 50, 51, 26, 52, 53, 54, 55, 56, 34, 57, 58, 59, 30, 60, 61, 62, 63, 64, 65, 106, 107, 108, 109, 110] (by decide +kernel) (by decide +kernel)
set_option maxRecDepth 20000 in
theorem gX11_clan_X2_askedBy : GoodIn wsX11_clan (wsV RX11 118 RX2 yX2_askedBy wsX2_askedBy) := goodIn_app (goodIn_of _ (by decide +kernel)) ggX11_clan_X2_askedBy
set_option maxRecDepth 20000 in
theorem ggX11_clan_X2_sparedBy : GoodIn wsX11_clan wsX2_sparedBy := goodIn_r _ [69, 40, 70, 71, 72, 73, 74, 75, 17, 76, 77, 78, 79, 80, 23, 81, 82, 83, 106, 107, 108, 109, 110] (by decide +kernel) (by decide +kernel)
set_option maxRecDepth 20000 in
theorem gX11_clan_X2_sparedBy : GoodIn wsX11_clan (wsV RX11 121 RX2 yX2_sparedBy wsX2_sparedBy) := goodIn_app (goodIn_of _ (by decide +kernel)) ggX11_clan_X2_sparedBy
set_option maxRecDepth 20000 in
theorem ggX11_clan_X2_owedBy : GoodIn wsX11_clan wsX2_owedBy := goodIn_r _ [87, 11, 88, 106, 107, 108, 109, 110] (by decide +kernel) (by decide +kernel)
set_option maxRecDepth 20000 in
theorem gX11_clan_X2_owedBy : GoodIn wsX11_clan (wsV RX11 124 RX2 yX2_owedBy wsX2_owedBy) := goodIn_app (goodIn_of _ (by decide +kernel)) ggX11_clan_X2_owedBy
set_option maxRecDepth 20000 in
theorem ggX11_clan_X2_owedTo : GoodIn wsX11_clan wsX2_owedTo := goodIn_r _ [92, 11, 88, 106, 107, 108, 109, 110] (by decide +kernel) (by decide +kernel)
set_option maxRecDepth 20000 in
theorem gX11_clan_X2_owedTo : GoodIn wsX11_clan (wsV RX11 127 RX2 yX2_owedTo wsX2_owedTo) := goodIn_app (goodIn_of _ (by decide +kernel)) ggX11_clan_X2_owedTo
theorem dX11_clan_0 : decode cX11_clan 0 = .ok (.aload_n 0, 1) := by decide +kernel
theorem dX11_clan_1 : decode cX11_clan 1 = .ok (.getfield 43, 3) := by decide +kernel
theorem dX11_clan_4 : decode cX11_clan 4 = .ok (.getfield 97, 3) := by decide +kernel
theorem dX11_clan_7 : decode cX11_clan 7 = .ok (.astore_n 3, 1) := by decide +kernel
theorem dX11_clan_8 : decode cX11_clan 8 = .ok (.aload_n 3, 1) := by decide +kernel
theorem dX11_clan_9 : decode cX11_clan 9 = .ok (.iload_n 1, 1) := by decide +kernel
theorem dX11_clan_10 : decode cX11_clan 10 = .ok (.invokevirtual 107, 3) := by decide +kernel
theorem dX11_clan_13 : decode cX11_clan 13 = .ok (.ifCond .ne 6, 3) := by decide +kernel
theorem dX11_clan_16 : decode cX11_clan 16 = .ok (.bipush (-101), 2) := by decide +kernel
theorem dX11_clan_18 : decode cX11_clan 18 = .ok (.ireturn, 1) := by decide +kernel
theorem dX11_clan_19 : decode cX11_clan 19 = .ok (.iload_n 2, 1) := by decide +kernel
theorem dX11_clan_20 : decode cX11_clan 20 = .ok (.bipush 10, 2) := by decide +kernel
theorem dX11_clan_22 : decode cX11_clan 22 = .ok (.if_icmp .lt 21, 3) := by decide +kernel
theorem dX11_clan_25 : decode cX11_clan 25 = .ok (.iload_n 2, 1) := by decide +kernel
theorem dX11_clan_26 : decode cX11_clan 26 = .ok (.bipush 14, 2) := by decide +kernel
theorem dX11_clan_28 : decode cX11_clan 28 = .ok (.if_icmp .ge 15, 3) := by decide +kernel
theorem dX11_clan_31 : decode cX11_clan 31 = .ok (.aload_n 3, 1) := by decide +kernel
theorem dX11_clan_32 : decode cX11_clan 32 = .ok (.getfield 111, 3) := by decide +kernel
theorem dX11_clan_35 : decode cX11_clan 35 = .ok (.iload_n 1, 1) := by decide +kernel
theorem dX11_clan_36 : decode cX11_clan 36 = .ok (.aaload, 1) := by decide +kernel
theorem dX11_clan_37 : decode cX11_clan 37 = .ok (.iload_n 2, 1) := by decide +kernel
theorem dX11_clan_38 : decode cX11_clan 38 = .ok (.bipush 10, 2) := by decide +kernel
theorem dX11_clan_40 : decode cX11_clan 40 = .ok (.isub, 1) := by decide +kernel
theorem dX11_clan_41 : decode cX11_clan 41 = .ok (.iaload, 1) := by decide +kernel
theorem dX11_clan_42 : decode cX11_clan 42 = .ok (.ireturn, 1) := by decide +kernel
theorem dX11_clan_43 : decode cX11_clan 43 = .ok (.iload_n 2, 1) := by decide +kernel
theorem dX11_clan_44 : decode cX11_clan 44 = .ok (.tableswitch 108 0 6 #[44, 54, 61, 67, 73, 79, 85], 44) := by decide +kernel
theorem dX11_clan_88 : decode cX11_clan 88 = .ok (.aload_n 0, 1) := by decide +kernel
theorem dX11_clan_89 : decode cX11_clan 89 = .ok (.getfield 28, 3) := by decide +kernel
theorem dX11_clan_92 : decode cX11_clan 92 = .ok (.iload_n 1, 1) := by decide +kernel
theorem dX11_clan_93 : decode cX11_clan 93 = .ok (.aaload, 1) := by decide +kernel
theorem dX11_clan_94 : decode cX11_clan 94 = .ok (.invokevirtual 115, 3) := by decide +kernel
theorem dX11_clan_97 : decode cX11_clan 97 = .ok (.ireturn, 1) := by decide +kernel
theorem dX11_clan_98 : decode cX11_clan 98 = .ok (.aload_n 3, 1) := by decide +kernel
theorem dX11_clan_99 : decode cX11_clan 99 = .ok (.getfield 100, 3) := by decide +kernel
theorem dX11_clan_102 : decode cX11_clan 102 = .ok (.iload_n 1, 1) := by decide +kernel
theorem dX11_clan_103 : decode cX11_clan 103 = .ok (.iaload, 1) := by decide +kernel
theorem dX11_clan_104 : decode cX11_clan 104 = .ok (.ireturn, 1) := by decide +kernel
theorem dX11_clan_105 : decode cX11_clan 105 = .ok (.aload_n 3, 1) := by decide +kernel
theorem dX11_clan_106 : decode cX11_clan 106 = .ok (.iload_n 1, 1) := by decide +kernel
theorem dX11_clan_107 : decode cX11_clan 107 = .ok (.invokevirtual 118, 3) := by decide +kernel
theorem dX11_clan_110 : decode cX11_clan 110 = .ok (.ireturn, 1) := by decide +kernel
theorem dX11_clan_111 : decode cX11_clan 111 = .ok (.aload_n 3, 1) := by decide +kernel
theorem dX11_clan_112 : decode cX11_clan 112 = .ok (.iload_n 1, 1) := by decide +kernel
theorem dX11_clan_113 : decode cX11_clan 113 = .ok (.invokevirtual 121, 3) := by decide +kernel
theorem dX11_clan_116 : decode cX11_clan 116 = .ok (.ireturn, 1) := by decide +kernel
theorem dX11_clan_117 : decode cX11_clan 117 = .ok (.aload_n 3, 1) := by decide +kernel
theorem dX11_clan_118 : decode cX11_clan 118 = .ok (.iload_n 1, 1) := by decide +kernel
theorem dX11_clan_119 : decode cX11_clan 119 = .ok (.invokevirtual 124, 3) := by decide +kernel
theorem dX11_clan_122 : decode cX11_clan 122 = .ok (.ireturn, 1) := by decide +kernel
theorem dX11_clan_123 : decode cX11_clan 123 = .ok (.aload_n 3, 1) := by decide +kernel
theorem dX11_clan_124 : decode cX11_clan 124 = .ok (.iload_n 1, 1) := by decide +kernel
theorem dX11_clan_125 : decode cX11_clan 125 = .ok (.invokevirtual 127, 3) := by decide +kernel
theorem dX11_clan_128 : decode cX11_clan 128 = .ok (.ireturn, 1) := by decide +kernel
theorem dX11_clan_129 : decode cX11_clan 129 = .ok (.sipush 1000, 3) := by decide +kernel
theorem dX11_clan_132 : decode cX11_clan 132 = .ok (.aload_n 3, 1) := by decide +kernel
theorem dX11_clan_133 : decode cX11_clan 133 = .ok (.getfield 100, 3) := by decide +kernel
theorem dX11_clan_136 : decode cX11_clan 136 = .ok (.iload_n 1, 1) := by decide +kernel
theorem dX11_clan_137 : decode cX11_clan 137 = .ok (.iaload, 1) := by decide +kernel
theorem dX11_clan_138 : decode cX11_clan 138 = .ok (.iadd, 1) := by decide +kernel
theorem dX11_clan_139 : decode cX11_clan 139 = .ok (.aload_n 3, 1) := by decide +kernel
theorem dX11_clan_140 : decode cX11_clan 140 = .ok (.iload_n 1, 1) := by decide +kernel
theorem dX11_clan_141 : decode cX11_clan 141 = .ok (.invokevirtual 127, 3) := by decide +kernel
theorem dX11_clan_144 : decode cX11_clan 144 = .ok (.iadd, 1) := by decide +kernel
theorem dX11_clan_145 : decode cX11_clan 145 = .ok (.aload_n 3, 1) := by decide +kernel
theorem dX11_clan_146 : decode cX11_clan 146 = .ok (.iload_n 1, 1) := by decide +kernel
theorem dX11_clan_147 : decode cX11_clan 147 = .ok (.invokevirtual 124, 3) := by decide +kernel
theorem dX11_clan_150 : decode cX11_clan 150 = .ok (.isub, 1) := by decide +kernel
theorem dX11_clan_151 : decode cX11_clan 151 = .ok (.ireturn, 1) := by decide +kernel
theorem dX11_clan_152 : decode cX11_clan 152 = .ok (.bipush (-102), 2) := by decide +kernel
theorem dX11_clan_154 : decode cX11_clan 154 = .ok (.ireturn, 1) := by decide +kernel
set_option maxRecDepth 20000 in
theorem ggX11_as_X2_knows : GoodIn wsX11_as wsX2_knows := goodIn_r _ [8, 9, 31, 32, 33, 34, 35] (by decide +kernel) (by decide +kernel)
set_option maxRecDepth 20000 in
theorem gX11_as_X2_knows : GoodIn wsX11_as (wsV RX11 107 RX2 yX2_knows wsX2_knows) := goodIn_app (goodIn_of _ (by decide +kernel)) ggX11_as_X2_knows
set_option maxRecDepth 20000 in
theorem ggX11_as_X11_isOfKind : GoodIn wsX11_as wsX11_isOfKind := goodIn_r _ [13, 14, 15, 16, 17] (by decide +kernel) (by decide +kernel)
set_option maxRecDepth 20000 in
theorem gX11_as_X11_isOfKind : GoodIn wsX11_as (va_wsS RX11 130 yX11_isOfKind wsX11_isOfKind) := goodIn_app (goodIn_of _ (by decide +kernel)) ggX11_as_X11_isOfKind
theorem dX11_as_0 : decode cX11_as 0 = .ok (.aload_n 0, 1) := by decide +kernel
theorem dX11_as_1 : decode cX11_as 1 = .ok (.getfield 43, 3) := by decide +kernel
theorem dX11_as_4 : decode cX11_as 4 = .ok (.getfield 97, 3) := by decide +kernel
theorem dX11_as_7 : decode cX11_as 7 = .ok (.iload_n 1, 1) := by decide +kernel
theorem dX11_as_8 : decode cX11_as 8 = .ok (.invokevirtual 107, 3) := by decide +kernel
theorem dX11_as_11 : decode cX11_as 11 = .ok (.ifCond .ne 6, 3) := by decide +kernel
theorem dX11_as_14 : decode cX11_as 14 = .ok (.bipush (-101), 2) := by decide +kernel
theorem dX11_as_16 : decode cX11_as 16 = .ok (.ireturn, 1) := by decide +kernel
theorem dX11_as_17 : decode cX11_as 17 = .ok (.iload_n 2, 1) := by decide +kernel
theorem dX11_as_18 : decode cX11_as 18 = .ok (.ifCond .lt 8, 3) := by decide +kernel
theorem dX11_as_21 : decode cX11_as 21 = .ok (.iload_n 2, 1) := by decide +kernel
theorem dX11_as_22 : decode cX11_as 22 = .ok (.iconst 5, 1) := by decide +kernel
theorem dX11_as_23 : decode cX11_as 23 = .ok (.if_icmp .lt 6, 3) := by decide +kernel
theorem dX11_as_26 : decode cX11_as 26 = .ok (.bipush (-102), 2) := by decide +kernel
theorem dX11_as_28 : decode cX11_as 28 = .ok (.ireturn, 1) := by decide +kernel
theorem dX11_as_29 : decode cX11_as 29 = .ok (.aload_n 0, 1) := by decide +kernel
theorem dX11_as_30 : decode cX11_as 30 = .ok (.getfield 28, 3) := by decide +kernel
theorem dX11_as_33 : decode cX11_as 33 = .ok (.iload_n 1, 1) := by decide +kernel
theorem dX11_as_34 : decode cX11_as 34 = .ok (.aaload, 1) := by decide +kernel
theorem dX11_as_35 : decode cX11_as 35 = .ok (.iload_n 2, 1) := by decide +kernel
theorem dX11_as_36 : decode cX11_as 36 = .ok (.invokestatic 130, 3) := by decide +kernel
theorem dX11_as_39 : decode cX11_as 39 = .ok (.ifCond .eq 7, 3) := by decide +kernel
theorem dX11_as_42 : decode cX11_as 42 = .ok (.iload_n 1, 1) := by decide +kernel
theorem dX11_as_43 : decode cX11_as 43 = .ok (.goto 4, 3) := by decide +kernel
theorem dX11_as_46 : decode cX11_as 46 = .ok (.iconst (-1), 1) := by decide +kernel
theorem dX11_as_47 : decode cX11_as 47 = .ok (.ireturn, 1) := by decide +kernel
set_option maxRecDepth 20000 in
theorem ggX11_rate_X11_isRate : GoodIn wsX11_rate wsX11_isRate := goodIn_r _ [7] (by decide +kernel) (by decide +kernel)
set_option maxRecDepth 20000 in
theorem gX11_rate_X11_isRate : GoodIn wsX11_rate (va_wsS RX11 134 yX11_isRate wsX11_isRate) := goodIn_app (goodIn_of _ (by decide +kernel)) ggX11_rate_X11_isRate
set_option maxRecDepth 20000 in
theorem ggX11_rate_X11_hasHills : GoodIn wsX11_rate wsX11_hasHills := goodIn_r _ [11, 1, 2, 12, 13, 14, 15, 16, 17, 18, 19, 20, 21, 22, 23, 24, 25, 26, 27, 28, 29, 30] (by decide +kernel) (by decide +kernel)
set_option maxRecDepth 20000 in
theorem gX11_rate_X11_hasHills : GoodIn wsX11_rate (wsV RX11 137 RX11 yX11_hasHills wsX11_hasHills) := goodIn_app (goodIn_of _ (by decide +kernel)) ggX11_rate_X11_hasHills
theorem dX11_rate_0 : decode cX11_rate 0 = .ok (.iload_n 1, 1) := by decide +kernel
theorem dX11_rate_1 : decode cX11_rate 1 = .ok (.invokestatic 134, 3) := by decide +kernel
theorem dX11_rate_4 : decode cX11_rate 4 = .ok (.ifCond .ne 6, 3) := by decide +kernel
theorem dX11_rate_7 : decode cX11_rate 7 = .ok (.bipush (-102), 2) := by decide +kernel
theorem dX11_rate_9 : decode cX11_rate 9 = .ok (.ireturn, 1) := by decide +kernel
theorem dX11_rate_10 : decode cX11_rate 10 = .ok (.aload_n 0, 1) := by decide +kernel
theorem dX11_rate_11 : decode cX11_rate 11 = .ok (.invokevirtual 137, 3) := by decide +kernel
theorem dX11_rate_14 : decode cX11_rate 14 = .ok (.ifCond .ne 6, 3) := by decide +kernel
theorem dX11_rate_17 : decode cX11_rate 17 = .ok (.bipush (-103), 2) := by decide +kernel
theorem dX11_rate_19 : decode cX11_rate 19 = .ok (.ireturn, 1) := by decide +kernel
theorem dX11_rate_20 : decode cX11_rate 20 = .ok (.aload_n 0, 1) := by decide +kernel
theorem dX11_rate_21 : decode cX11_rate 21 = .ok (.getfield 43, 3) := by decide +kernel
theorem dX11_rate_24 : decode cX11_rate 24 = .ok (.getfield 97, 3) := by decide +kernel
theorem dX11_rate_27 : decode cX11_rate 27 = .ok (.getfield 140, 3) := by decide +kernel
theorem dX11_rate_30 : decode cX11_rate 30 = .ok (.istore_n 2, 1) := by decide +kernel
theorem dX11_rate_31 : decode cX11_rate 31 = .ok (.aload_n 0, 1) := by decide +kernel
theorem dX11_rate_32 : decode cX11_rate 32 = .ok (.getfield 43, 3) := by decide +kernel
theorem dX11_rate_35 : decode cX11_rate 35 = .ok (.getfield 97, 3) := by decide +kernel
theorem dX11_rate_38 : decode cX11_rate 38 = .ok (.iload_n 1, 1) := by decide +kernel
theorem dX11_rate_39 : decode cX11_rate 39 = .ok (.putfield 140, 3) := by decide +kernel
theorem dX11_rate_42 : decode cX11_rate 42 = .ok (.iload_n 2, 1) := by decide +kernel
theorem dX11_rate_43 : decode cX11_rate 43 = .ok (.ireturn, 1) := by decide +kernel
set_option maxRecDepth 20000 in
theorem ggX11_wed_X2_knowsCouple : GoodIn wsX11_wed wsX2_knowsCouple := goodIn_r _ [9, 10, 11, 12, 8, 13, 14, 100, 101, 102, 103, 104] (by decide +kernel) (by decide +kernel)
set_option maxRecDepth 20000 in
theorem gX11_wed_X2_knowsCouple : GoodIn wsX11_wed (wsV RX11 143 RX2 yX2_knowsCouple wsX2_knowsCouple) := goodIn_app (goodIn_of _ (by decide +kernel)) ggX11_wed_X2_knowsCouple
set_option maxRecDepth 20000 in
theorem ggX11_wed_X2_marry : GoodIn wsX11_wed wsX2_marry := goodIn_r _ [18, 19, 20, 21, 22, 23, 24, 25, 26, 27, 28, 29, 30, 31, 32, 33, 34, 35, 36, 37, 38, 39, 40, 41, 42, 43, 44, 45, 46, 47, 48, 49, 50, 51, 8, 52, 53, 54, 55, 56, 57, 58, 59, 60, 61, 62, 63, 64, 65, 66, 67, 68, 69, 70, 71, 100, 101, 102, 103, 104] (by decide +kernel) (by decide +kernel)
set_option maxRecDepth 20000 in
theorem gX11_wed_X2_marry : GoodIn wsX11_wed (wsV RX11 154 RX2 yX2_marry wsX2_marry) := goodIn_app (goodIn_of _ (by decide +kernel)) ggX11_wed_X2_marry
set_option maxRecDepth 20000 in
theorem ggX11_wed_X10_note : GoodIn wsX11_wed wsX10_note := goodIn_r _ [76, 77, 78, 79, 80, 81, 95, 96, 97, 98, 99] (by decide +kernel) (by decide +kernel)
set_option maxRecDepth 20000 in
theorem gX11_wed_X10_note : GoodIn wsX11_wed (wsV RX11 158 RX10 yX10_note wsX10_note) := goodIn_app (goodIn_of _ (by decide +kernel)) ggX11_wed_X10_note
theorem dX11_wed_0 : decode cX11_wed 0 = .ok (.aload_n 0, 1) := by decide +kernel
theorem dX11_wed_1 : decode cX11_wed 1 = .ok (.getfield 43, 3) := by decide +kernel
theorem dX11_wed_4 : decode cX11_wed 4 = .ok (.getfield 97, 3) := by decide +kernel
theorem dX11_wed_7 : decode cX11_wed 7 = .ok (.iload_n 1, 1) := by decide +kernel
theorem dX11_wed_8 : decode cX11_wed 8 = .ok (.iload_n 2, 1) := by decide +kernel
theorem dX11_wed_9 : decode cX11_wed 9 = .ok (.invokevirtual 143, 3) := by decide +kernel
theorem dX11_wed_12 : decode cX11_wed 12 = .ok (.ifCond .ne 6, 3) := by decide +kernel
theorem dX11_wed_15 : decode cX11_wed 15 = .ok (.bipush (-101), 2) := by decide +kernel
theorem dX11_wed_17 : decode cX11_wed 17 = .ok (.ireturn, 1) := by decide +kernel
theorem dX11_wed_18 : decode cX11_wed 18 = .ok (.aload_n 0, 1) := by decide +kernel
theorem dX11_wed_19 : decode cX11_wed 19 = .ok (.getfield 43, 3) := by decide +kernel
theorem dX11_wed_22 : decode cX11_wed 22 = .ok (.getfield 147, 3) := by decide +kernel
theorem dX11_wed_25 : decode cX11_wed 25 = .ok (.getfield 151, 3) := by decide +kernel
theorem dX11_wed_28 : decode cX11_wed 28 = .ok (.bipush 12, 2) := by decide +kernel
theorem dX11_wed_30 : decode cX11_wed 30 = .ok (.if_icmp .lt 6, 3) := by decide +kernel
theorem dX11_wed_33 : decode cX11_wed 33 = .ok (.bipush (-104), 2) := by decide +kernel
theorem dX11_wed_35 : decode cX11_wed 35 = .ok (.ireturn, 1) := by decide +kernel
theorem dX11_wed_36 : decode cX11_wed 36 = .ok (.aload_n 0, 1) := by decide +kernel
theorem dX11_wed_37 : decode cX11_wed 37 = .ok (.getfield 43, 3) := by decide +kernel
theorem dX11_wed_40 : decode cX11_wed 40 = .ok (.getfield 97, 3) := by decide +kernel
theorem dX11_wed_43 : decode cX11_wed 43 = .ok (.iload_n 1, 1) := by decide +kernel
theorem dX11_wed_44 : decode cX11_wed 44 = .ok (.iload_n 2, 1) := by decide +kernel
theorem dX11_wed_45 : decode cX11_wed 45 = .ok (.invokevirtual 154, 3) := by decide +kernel
theorem dX11_wed_48 : decode cX11_wed 48 = .ok (.istore_n 3, 1) := by decide +kernel
theorem dX11_wed_49 : decode cX11_wed 49 = .ok (.aload_n 0, 1) := by decide +kernel
theorem dX11_wed_50 : decode cX11_wed 50 = .ok (.getfield 43, 3) := by decide +kernel
theorem dX11_wed_53 : decode cX11_wed 53 = .ok (.getfield 147, 3) := by decide +kernel
theorem dX11_wed_56 : decode cX11_wed 56 = .ok (.iload_n 1, 1) := by decide +kernel
theorem dX11_wed_57 : decode cX11_wed 57 = .ok (.iload_n 2, 1) := by decide +kernel
theorem dX11_wed_58 : decode cX11_wed 58 = .ok (.iload_n 3, 1) := by decide +kernel
theorem dX11_wed_59 : decode cX11_wed 59 = .ok (.invokevirtual 158, 3) := by decide +kernel
theorem dX11_wed_62 : decode cX11_wed 62 = .ok (.ireturn, 1) := by decide +kernel
set_option maxRecDepth 20000 in
theorem ggX11_wedding_X10_knows : GoodIn wsX11_wedding wsX10_knows := goodIn_r _ [11, 12, 26, 27, 28, 29, 30] (by decide +kernel) (by decide +kernel)
set_option maxRecDepth 20000 in
theorem gX11_wedding_X10_knows : GoodIn wsX11_wedding (wsV RX11 162 RX10 yX10_knows wsX10_knows) := goodIn_app (goodIn_of _ (by decide +kernel)) ggX11_wedding_X10_knows
theorem dX11_wedding_0 : decode cX11_wedding 0 = .ok (.aload_n 0, 1) := by decide +kernel
theorem dX11_wedding_1 : decode cX11_wedding 1 = .ok (.getfield 43, 3) := by decide +kernel
theorem dX11_wedding_4 : decode cX11_wedding 4 = .ok (.getfield 147, 3) := by decide +kernel
theorem dX11_wedding_7 : decode cX11_wedding 7 = .ok (.astore_n 3, 1) := by decide +kernel
theorem dX11_wedding_8 : decode cX11_wedding 8 = .ok (.aload_n 3, 1) := by decide +kernel
theorem dX11_wedding_9 : decode cX11_wedding 9 = .ok (.iload_n 1, 1) := by decide +kernel
theorem dX11_wedding_10 : decode cX11_wedding 10 = .ok (.invokevirtual 162, 3) := by decide +kernel
theorem dX11_wedding_13 : decode cX11_wedding 13 = .ok (.ifCond .ne 6, 3) := by decide +kernel
theorem dX11_wedding_16 : decode cX11_wedding 16 = .ok (.bipush (-101), 2) := by decide +kernel
theorem dX11_wedding_18 : decode cX11_wedding 18 = .ok (.ireturn, 1) := by decide +kernel
theorem dX11_wedding_19 : decode cX11_wedding 19 = .ok (.iload_n 2, 1) := by decide +kernel
theorem dX11_wedding_20 : decode cX11_wedding 20 = .ok (.tableswitch 60 0 3 #[32, 39, 46, 53], 32) := by decide +kernel
theorem dX11_wedding_52 : decode cX11_wedding 52 = .ok (.aload_n 3, 1) := by decide +kernel
theorem dX11_wedding_53 : decode cX11_wedding 53 = .ok (.getfield 163, 3) := by decide +kernel
theorem dX11_wedding_56 : decode cX11_wedding 56 = .ok (.iload_n 1, 1) := by decide +kernel
theorem dX11_wedding_57 : decode cX11_wedding 57 = .ok (.iaload, 1) := by decide +kernel
theorem dX11_wedding_58 : decode cX11_wedding 58 = .ok (.ireturn, 1) := by decide +kernel
theorem dX11_wedding_59 : decode cX11_wedding 59 = .ok (.aload_n 3, 1) := by decide +kernel
end
section
theorem dX11_wedding_60 : decode cX11_wedding 60 = .ok (.getfield 166, 3) := by decide +kernel
theorem dX11_wedding_63 : decode cX11_wedding 63 = .ok (.iload_n 1, 1) := by decide +kernel
theorem dX11_wedding_64 : decode cX11_wedding 64 = .ok (.iaload, 1) := by decide +kernel
theorem dX11_wedding_65 : decode cX11_wedding 65 = .ok (.ireturn, 1) := by decide +kernel
theorem dX11_wedding_66 : decode cX11_wedding 66 = .ok (.aload_n 3, 1) := by decide +kernel
theorem dX11_wedding_67 : decode cX11_wedding 67 = .ok (.getfield 169, 3) := by decide +kernel
theorem dX11_wedding_70 : decode cX11_wedding 70 = .ok (.iload_n 1, 1) := by decide +kernel
theorem dX11_wedding_71 : decode cX11_wedding 71 = .ok (.iaload, 1) := by decide +kernel
theorem dX11_wedding_72 : decode cX11_wedding 72 = .ok (.ireturn, 1) := by decide +kernel
theorem dX11_wedding_73 : decode cX11_wedding 73 = .ok (.aload_n 3, 1) := by decide +kernel
theorem dX11_wedding_74 : decode cX11_wedding 74 = .ok (.getfield 172, 3) := by decide +kernel
theorem dX11_wedding_77 : decode cX11_wedding 77 = .ok (.iload_n 1, 1) := by decide +kernel
theorem dX11_wedding_78 : decode cX11_wedding 78 = .ok (.iaload, 1) := by decide +kernel
theorem dX11_wedding_79 : decode cX11_wedding 79 = .ok (.ireturn, 1) := by decide +kernel
theorem dX11_wedding_80 : decode cX11_wedding 80 = .ok (.bipush (-102), 2) := by decide +kernel
theorem dX11_wedding_82 : decode cX11_wedding 82 = .ok (.ireturn, 1) := by decide +kernel
set_option maxRecDepth 20000 in
theorem ggX11_divorce_X10_knows : GoodIn wsX11_divorce wsX10_knows := goodIn_r _ [12, 13, 54, 55, 56, 57, 58] (by decide +kernel) (by decide +kernel)
set_option maxRecDepth 20000 in
theorem gX11_divorce_X10_knows : GoodIn wsX11_divorce (wsV RX11 162 RX10 yX10_knows wsX10_knows) := goodIn_app (goodIn_of _ (by decide +kernel)) ggX11_divorce_X10_knows
set_option maxRecDepth 20000 in
theorem ggX11_divorce_X2_pay : GoodIn wsX11_divorce wsX2_pay := goodIn_r _ [18, 19, 20, 21, 22, 23, 24, 25, 26, 27, 28, 29, 30, 31, 32, 33, 34, 35, 36, 37, 38, 39, 40, 59, 60, 61, 62, 63] (by decide +kernel) (by decide +kernel)
set_option maxRecDepth 20000 in
theorem gX11_divorce_X2_pay : GoodIn wsX11_divorce (wsV RX11 175 RX2 yX2_pay wsX2_pay) := goodIn_app (goodIn_of _ (by decide +kernel)) ggX11_divorce_X2_pay
theorem dX11_divorce_0 : decode cX11_divorce 0 = .ok (.aload_n 0, 1) := by decide +kernel
theorem dX11_divorce_1 : decode cX11_divorce 1 = .ok (.getfield 43, 3) := by decide +kernel
theorem dX11_divorce_4 : decode cX11_divorce 4 = .ok (.getfield 147, 3) := by decide +kernel
theorem dX11_divorce_7 : decode cX11_divorce 7 = .ok (.astore_n 2, 1) := by decide +kernel
theorem dX11_divorce_8 : decode cX11_divorce 8 = .ok (.aload_n 2, 1) := by decide +kernel
theorem dX11_divorce_9 : decode cX11_divorce 9 = .ok (.iload_n 1, 1) := by decide +kernel
theorem dX11_divorce_10 : decode cX11_divorce 10 = .ok (.invokevirtual 162, 3) := by decide +kernel
theorem dX11_divorce_13 : decode cX11_divorce 13 = .ok (.ifCond .ne 6, 3) := by decide +kernel
theorem dX11_divorce_16 : decode cX11_divorce 16 = .ok (.bipush (-101), 2) := by decide +kernel
theorem dX11_divorce_18 : decode cX11_divorce 18 = .ok (.ireturn, 1) := by decide +kernel
theorem dX11_divorce_19 : decode cX11_divorce 19 = .ok (.aload_n 2, 1) := by decide +kernel
theorem dX11_divorce_20 : decode cX11_divorce 20 = .ok (.getfield 172, 3) := by decide +kernel
theorem dX11_divorce_23 : decode cX11_divorce 23 = .ok (.iload_n 1, 1) := by decide +kernel
theorem dX11_divorce_24 : decode cX11_divorce 24 = .ok (.iaload, 1) := by decide +kernel
theorem dX11_divorce_25 : decode cX11_divorce 25 = .ok (.ifCond .eq 6, 3) := by decide +kernel
theorem dX11_divorce_28 : decode cX11_divorce 28 = .ok (.bipush (-103), 2) := by decide +kernel
theorem dX11_divorce_30 : decode cX11_divorce 30 = .ok (.ireturn, 1) := by decide +kernel
theorem dX11_divorce_31 : decode cX11_divorce 31 = .ok (.aload_n 2, 1) := by decide +kernel
theorem dX11_divorce_32 : decode cX11_divorce 32 = .ok (.getfield 172, 3) := by decide +kernel
theorem dX11_divorce_35 : decode cX11_divorce 35 = .ok (.iload_n 1, 1) := by decide +kernel
theorem dX11_divorce_36 : decode cX11_divorce 36 = .ok (.iconst 1, 1) := by decide +kernel
theorem dX11_divorce_37 : decode cX11_divorce 37 = .ok (.iastore, 1) := by decide +kernel
theorem dX11_divorce_38 : decode cX11_divorce 38 = .ok (.aload_n 0, 1) := by decide +kernel
theorem dX11_divorce_39 : decode cX11_divorce 39 = .ok (.getfield 43, 3) := by decide +kernel
theorem dX11_divorce_42 : decode cX11_divorce 42 = .ok (.getfield 97, 3) := by decide +kernel
theorem dX11_divorce_45 : decode cX11_divorce 45 = .ok (.aload_n 2, 1) := by decide +kernel
theorem dX11_divorce_46 : decode cX11_divorce 46 = .ok (.getfield 166, 3) := by decide +kernel
theorem dX11_divorce_49 : decode cX11_divorce 49 = .ok (.iload_n 1, 1) := by decide +kernel
theorem dX11_divorce_50 : decode cX11_divorce 50 = .ok (.iaload, 1) := by decide +kernel
theorem dX11_divorce_51 : decode cX11_divorce 51 = .ok (.aload_n 2, 1) := by decide +kernel
theorem dX11_divorce_52 : decode cX11_divorce 52 = .ok (.getfield 163, 3) := by decide +kernel
theorem dX11_divorce_55 : decode cX11_divorce 55 = .ok (.iload_n 1, 1) := by decide +kernel
theorem dX11_divorce_56 : decode cX11_divorce 56 = .ok (.iaload, 1) := by decide +kernel
theorem dX11_divorce_57 : decode cX11_divorce 57 = .ok (.aload_n 2, 1) := by decide +kernel
theorem dX11_divorce_58 : decode cX11_divorce 58 = .ok (.getfield 169, 3) := by decide +kernel
theorem dX11_divorce_61 : decode cX11_divorce 61 = .ok (.iload_n 1, 1) := by decide +kernel
theorem dX11_divorce_62 : decode cX11_divorce 62 = .ok (.iaload, 1) := by decide +kernel
theorem dX11_divorce_63 : decode cX11_divorce 63 = .ok (.invokevirtual 175, 3) := by decide +kernel
theorem dX11_divorce_66 : decode cX11_divorce 66 = .ok (.ireturn, 1) := by decide +kernel
set_option maxRecDepth 20000 in
theorem ggX11_year_X11_hasHills : GoodIn wsX11_year wsX11_hasHills := goodIn_r _ [8, 1, 2, 9, 60, 61, 62, 63, 64, 65, 66, 67, 68, 69, 70, 71, 72, 73, 74, 75, 76, 77] (by decide +kernel) (by decide +kernel)
set_option maxRecDepth 20000 in
theorem gX11_year_X11_hasHills : GoodIn wsX11_year (wsV RX11 137 RX11 yX11_hasHills wsX11_hasHills) := goodIn_app (goodIn_of _ (by decide +kernel)) ggX11_year_X11_hasHills
set_option maxRecDepth 20000 in
theorem ggX11_year_X2_passYear : GoodIn wsX11_year wsX2_passYear := goodIn_r _ [14, 15, 16, 17, 18, 13, 19, 20, 21, 22, 23, 24, 25, 26, 27, 28, 29, 30, 31, 32, 33, 34, 35, 36, 37, 38, 39, 40, 41, 42, 43, 44, 45, 46, 47, 48, 49, 50, 51, 73, 74, 75, 76, 77] (by decide +kernel) (by decide +kernel)
set_option maxRecDepth 20000 in
theorem gX11_year_X2_passYear : GoodIn wsX11_year (wsV RX11 178 RX2 yX2_passYear wsX2_passYear) := goodIn_app (goodIn_of _ (by decide +kernel)) ggX11_year_X2_passYear
set_option maxRecDepth 20000 in
theorem ggX11_year_X2_allOwed : GoodIn wsX11_year wsX2_allOwed := goodIn_r _ [55, 15, 56, 57, 58, 13, 59, 31, 73, 74, 75, 76, 77] (by decide +kernel) (by decide +kernel)
set_option maxRecDepth 20000 in
theorem gX11_year_X2_allOwed : GoodIn wsX11_year (wsV RX11 184 RX2 yX2_allOwed wsX2_allOwed) := goodIn_app (goodIn_of _ (by decide +kernel)) ggX11_year_X2_allOwed
theorem dX11_year_0 : decode cX11_year 0 = .ok (.aload_n 0, 1) := by decide +kernel
theorem dX11_year_1 : decode cX11_year 1 = .ok (.invokevirtual 137, 3) := by decide +kernel
theorem dX11_year_4 : decode cX11_year 4 = .ok (.ifCond .ne 6, 3) := by decide +kernel
theorem dX11_year_7 : decode cX11_year 7 = .ok (.bipush (-103), 2) := by decide +kernel
theorem dX11_year_9 : decode cX11_year 9 = .ok (.ireturn, 1) := by decide +kernel
theorem dX11_year_10 : decode cX11_year 10 = .ok (.aload_n 0, 1) := by decide +kernel
theorem dX11_year_11 : decode cX11_year 11 = .ok (.getfield 43, 3) := by decide +kernel
theorem dX11_year_14 : decode cX11_year 14 = .ok (.getfield 97, 3) := by decide +kernel
theorem dX11_year_17 : decode cX11_year 17 = .ok (.invokevirtual 178, 3) := by decide +kernel
theorem dX11_year_20 : decode cX11_year 20 = .ok (.aload_n 0, 1) := by decide +kernel
theorem dX11_year_21 : decode cX11_year 21 = .ok (.getfield 43, 3) := by decide +kernel
theorem dX11_year_24 : decode cX11_year 24 = .ok (.dup, 1) := by decide +kernel
theorem dX11_year_25 : decode cX11_year 25 = .ok (.getfield 181, 3) := by decide +kernel
theorem dX11_year_28 : decode cX11_year 28 = .ok (.iconst 1, 1) := by decide +kernel
theorem dX11_year_29 : decode cX11_year 29 = .ok (.iadd, 1) := by decide +kernel
theorem dX11_year_30 : decode cX11_year 30 = .ok (.putfield 181, 3) := by decide +kernel
theorem dX11_year_33 : decode cX11_year 33 = .ok (.aload_n 0, 1) := by decide +kernel
theorem dX11_year_34 : decode cX11_year 34 = .ok (.getfield 43, 3) := by decide +kernel
theorem dX11_year_37 : decode cX11_year 37 = .ok (.getfield 97, 3) := by decide +kernel
theorem dX11_year_40 : decode cX11_year 40 = .ok (.invokevirtual 184, 3) := by decide +kernel
theorem dX11_year_43 : decode cX11_year 43 = .ok (.ireturn, 1) := by decide +kernel
set_option maxRecDepth 20000 in
theorem ggX11_settled_X11_hasHills : GoodIn wsX11_settled wsX11_hasHills := goodIn_r _ [7, 1, 2, 8, 28, 29, 30, 31, 32, 33, 34, 35, 36, 37, 38, 39, 40, 41, 42, 43, 44, 45] (by decide +kernel) (by decide +kernel)
set_option maxRecDepth 20000 in
theorem gX11_settled_X11_hasHills : GoodIn wsX11_settled (wsV RX11 137 RX11 yX11_hasHills wsX11_hasHills) := goodIn_app (goodIn_of _ (by decide +kernel)) ggX11_settled_X11_hasHills
set_option maxRecDepth 20000 in
theorem ggX11_settled_X2_leastLed : GoodIn wsX11_settled wsX2_leastLed := goodIn_r _ [13, 14, 15, 16, 17, 18, 19, 20, 21, 12, 22, 23, 24, 25, 26, 27, 41, 42, 43, 44, 45] (by decide +kernel) (by decide +kernel)
set_option maxRecDepth 20000 in
theorem gX11_settled_X2_leastLed : GoodIn wsX11_settled (wsV RX11 187 RX2 yX2_leastLed wsX2_leastLed) := goodIn_app (goodIn_of _ (by decide +kernel)) ggX11_settled_X2_leastLed
theorem dX11_settled_0 : decode cX11_settled 0 = .ok (.aload_n 0, 1) := by decide +kernel
theorem dX11_settled_1 : decode cX11_settled 1 = .ok (.invokevirtual 137, 3) := by decide +kernel
theorem dX11_settled_4 : decode cX11_settled 4 = .ok (.ifCond .eq 16, 3) := by decide +kernel
theorem dX11_settled_7 : decode cX11_settled 7 = .ok (.aload_n 0, 1) := by decide +kernel
theorem dX11_settled_8 : decode cX11_settled 8 = .ok (.getfield 43, 3) := by decide +kernel
theorem dX11_settled_11 : decode cX11_settled 11 = .ok (.getfield 97, 3) := by decide +kernel
theorem dX11_settled_14 : decode cX11_settled 14 = .ok (.invokevirtual 187, 3) := by decide +kernel
theorem dX11_settled_17 : decode cX11_settled 17 = .ok (.goto 5, 3) := by decide +kernel
theorem dX11_settled_20 : decode cX11_settled 20 = .ok (.bipush (-103), 2) := by decide +kernel
theorem dX11_settled_22 : decode cX11_settled 22 = .ok (.ireturn, 1) := by decide +kernel
set_option maxRecDepth 20000 in
theorem ggX11_plan_X2_knowsCouple : GoodIn wsX11_plan wsX2_knowsCouple := goodIn_r _ [9, 10, 11, 12, 8, 13, 14, 42, 43, 44, 45, 46] (by decide +kernel) (by decide +kernel)
set_option maxRecDepth 20000 in
theorem gX11_plan_X2_knowsCouple : GoodIn wsX11_plan (wsV RX11 143 RX2 yX2_knowsCouple wsX2_knowsCouple) := goodIn_app (goodIn_of _ (by decide +kernel)) ggX11_plan_X2_knowsCouple
set_option maxRecDepth 20000 in
theorem ggX11_plan_X5_note : GoodIn wsX11_plan wsX5_note := goodIn_r _ [19, 20, 21, 22, 36, 37, 38, 39, 40, 41] (by decide +kernel) (by decide +kernel)
set_option maxRecDepth 20000 in
theorem gX11_plan_X5_note : GoodIn wsX11_plan (wsV RX11 197 RX5 yX5_note wsX5_note) := goodIn_app (goodIn_of _ (by decide +kernel)) ggX11_plan_X5_note
theorem dX11_plan_0 : decode cX11_plan 0 = .ok (.aload_n 0, 1) := by decide +kernel
theorem dX11_plan_1 : decode cX11_plan 1 = .ok (.getfield 43, 3) := by decide +kernel
theorem dX11_plan_4 : decode cX11_plan 4 = .ok (.getfield 97, 3) := by decide +kernel
theorem dX11_plan_7 : decode cX11_plan 7 = .ok (.iload_n 1, 1) := by decide +kernel
theorem dX11_plan_8 : decode cX11_plan 8 = .ok (.iload_n 2, 1) := by decide +kernel
theorem dX11_plan_9 : decode cX11_plan 9 = .ok (.invokevirtual 143, 3) := by decide +kernel
theorem dX11_plan_12 : decode cX11_plan 12 = .ok (.ifCond .ne 6, 3) := by decide +kernel
theorem dX11_plan_15 : decode cX11_plan 15 = .ok (.bipush (-101), 2) := by decide +kernel
theorem dX11_plan_17 : decode cX11_plan 17 = .ok (.ireturn, 1) := by decide +kernel
theorem dX11_plan_18 : decode cX11_plan 18 = .ok (.aload_n 0, 1) := by decide +kernel
theorem dX11_plan_19 : decode cX11_plan 19 = .ok (.getfield 43, 3) := by decide +kernel
theorem dX11_plan_22 : decode cX11_plan 22 = .ok (.getfield 190, 3) := by decide +kernel
theorem dX11_plan_25 : decode cX11_plan 25 = .ok (.getfield 194, 3) := by decide +kernel
theorem dX11_plan_28 : decode cX11_plan 28 = .ok (.iconst 4, 1) := by decide +kernel
theorem dX11_plan_29 : decode cX11_plan 29 = .ok (.if_icmp .lt 6, 3) := by decide +kernel
theorem dX11_plan_32 : decode cX11_plan 32 = .ok (.bipush (-104), 2) := by decide +kernel
theorem dX11_plan_34 : decode cX11_plan 34 = .ok (.ireturn, 1) := by decide +kernel
theorem dX11_plan_35 : decode cX11_plan 35 = .ok (.aload_n 0, 1) := by decide +kernel
theorem dX11_plan_36 : decode cX11_plan 36 = .ok (.getfield 43, 3) := by decide +kernel
theorem dX11_plan_39 : decode cX11_plan 39 = .ok (.getfield 190, 3) := by decide +kernel
theorem dX11_plan_42 : decode cX11_plan 42 = .ok (.iload_n 1, 1) := by decide +kernel
theorem dX11_plan_43 : decode cX11_plan 43 = .ok (.iload_n 2, 1) := by decide +kernel
theorem dX11_plan_44 : decode cX11_plan 44 = .ok (.invokevirtual 197, 3) := by decide +kernel
theorem dX11_plan_47 : decode cX11_plan 47 = .ok (.ireturn, 1) := by decide +kernel
theorem dX11_dream_0 : decode cX11_dream 0 = .ok (.aload_n 0, 1) := by decide +kernel
theorem dX11_dream_1 : decode cX11_dream 1 = .ok (.getfield 43, 3) := by decide +kernel
theorem dX11_dream_4 : decode cX11_dream 4 = .ok (.getfield 190, 3) := by decide +kernel
theorem dX11_dream_7 : decode cX11_dream 7 = .ok (.getfield 194, 3) := by decide +kernel
theorem dX11_dream_10 : decode cX11_dream 10 = .ok (.istore_n 1, 1) := by decide +kernel
theorem dX11_dream_11 : decode cX11_dream 11 = .ok (.aload_n 0, 1) := by decide +kernel
theorem dX11_dream_12 : decode cX11_dream 12 = .ok (.getfield 43, 3) := by decide +kernel
theorem dX11_dream_15 : decode cX11_dream 15 = .ok (.getfield 190, 3) := by decide +kernel
theorem dX11_dream_18 : decode cX11_dream 18 = .ok (.iconst 0, 1) := by decide +kernel
theorem dX11_dream_19 : decode cX11_dream 19 = .ok (.putfield 194, 3) := by decide +kernel
theorem dX11_dream_22 : decode cX11_dream 22 = .ok (.iload_n 1, 1) := by decide +kernel
theorem dX11_dream_23 : decode cX11_dream 23 = .ok (.ireturn, 1) := by decide +kernel
set_option maxRecDepth 20000 in
theorem ggX11_order_X11_hasHills : GoodIn wsX11_order wsX11_hasHills := goodIn_r _ [10, 1, 3, 11, 118, 119, 120, 121, 122, 123, 124, 125, 126, 127, 128, 129, 130, 137, 138, 139, 140, 141] (by decide +kernel) (by decide +kernel)
set_option maxRecDepth 20000 in
theorem gX11_order_X11_hasHills : GoodIn wsX11_order (wsV RX11 137 RX11 yX11_hasHills wsX11_hasHills) := goodIn_app (goodIn_of _ (by decide +kernel)) ggX11_order_X11_hasHills
set_option maxRecDepth 20000 in
theorem ggX11_order_X5_findOrder : GoodIn wsX11_order wsX5_findOrder := goodIn_r _ [16, 17, 18, 19, 20, 21, 22, 23, 24, 25, 26, 15, 27, 28, 29, 30, 31, 32, 33, 34, 35, 36, 37, 38, 39, 40, 41, 42, 43, 44, 45, 46, 47, 48, 49, 50, 51, 52, 53, 54, 55, 56, 57, 58, 59, 60, 61, 62, 63, 64, 65, 66, 67, 68, 69, 70, 71, 72, 73, 74, 75, 76, 77, 78, 79, 80, 81, 82, 83, 84, 85, 86, 87, 88, 89, 90, 91, 92, 93, 94, 95, 96, 97, 98, 99, 100, 101, 102, 103, 104, 105, 106, 107, 108, 109, 110, 111, 112, 113, 131, 132, 133, 134, 135, 136, 137, 138, 139, 140, 141] (by decide +kernel) (by decide +kernel)
set_option maxRecDepth 20000 in
theorem gX11_order_X5_findOrder : GoodIn wsX11_order (wsV RX11 199 RX5 yX5_findOrder wsX5_findOrder) := goodIn_app (goodIn_of _ (by decide +kernel)) ggX11_order_X5_findOrder
set_option maxRecDepth 20000 in
theorem ggX11_order_X5_bestAt : GoodIn wsX11_order wsX5_bestAt := goodIn_r _ [117, 41, 19, 131, 132, 133, 134, 135, 136] (by decide +kernel) (by decide +kernel)
set_option maxRecDepth 20000 in
theorem gX11_order_X5_bestAt : GoodIn wsX11_order (wsV RX11 203 RX5 yX5_bestAt wsX5_bestAt) := goodIn_app (goodIn_of _ (by decide +kernel)) ggX11_order_X5_bestAt
theorem dX11_order_0 : decode cX11_order 0 = .ok (.iload_n 1, 1) := by decide +kernel
theorem dX11_order_1 : decode cX11_order 1 = .ok (.bipush 10, 2) := by decide +kernel
theorem dX11_order_3 : decode cX11_order 3 = .ok (.if_icmp .lt 13, 3) := by decide +kernel
theorem dX11_order_6 : decode cX11_order 6 = .ok (.iload_n 1, 1) := by decide +kernel
theorem dX11_order_7 : decode cX11_order 7 = .ok (.bipush 14, 2) := by decide +kernel
theorem dX11_order_9 : decode cX11_order 9 = .ok (.if_icmp .ge 7, 3) := by decide +kernel
theorem dX11_order_12 : decode cX11_order 12 = .ok (.iconst 1, 1) := by decide +kernel
theorem dX11_order_13 : decode cX11_order 13 = .ok (.goto 4, 3) := by decide +kernel
theorem dX11_order_16 : decode cX11_order 16 = .ok (.iconst 0, 1) := by decide +kernel
theorem dX11_order_17 : decode cX11_order 17 = .ok (.istore_n 2, 1) := by decide +kernel
theorem dX11_order_18 : decode cX11_order 18 = .ok (.iload_n 1, 1) := by decide +kernel
theorem dX11_order_19 : decode cX11_order 19 = .ok (.ifCond .eq 10, 3) := by decide +kernel
theorem dX11_order_22 : decode cX11_order 22 = .ok (.iload_n 2, 1) := by decide +kernel
theorem dX11_order_23 : decode cX11_order 23 = .ok (.ifCond .ne 6, 3) := by decide +kernel
theorem dX11_order_26 : decode cX11_order 26 = .ok (.bipush (-102), 2) := by decide +kernel
theorem dX11_order_28 : decode cX11_order 28 = .ok (.ireturn, 1) := by decide +kernel
theorem dX11_order_29 : decode cX11_order 29 = .ok (.aload_n 0, 1) := by decide +kernel
theorem dX11_order_30 : decode cX11_order 30 = .ok (.invokevirtual 137, 3) := by decide +kernel
theorem dX11_order_33 : decode cX11_order 33 = .ok (.ifCond .ne 6, 3) := by decide +kernel
theorem dX11_order_36 : decode cX11_order 36 = .ok (.bipush (-103), 2) := by decide +kernel
theorem dX11_order_38 : decode cX11_order 38 = .ok (.ireturn, 1) := by decide +kernel
theorem dX11_order_39 : decode cX11_order 39 = .ok (.aload_n 0, 1) := by decide +kernel
theorem dX11_order_40 : decode cX11_order 40 = .ok (.getfield 43, 3) := by decide +kernel
theorem dX11_order_43 : decode cX11_order 43 = .ok (.getfield 190, 3) := by decide +kernel
theorem dX11_order_46 : decode cX11_order 46 = .ok (.aload_n 0, 1) := by decide +kernel
theorem dX11_order_47 : decode cX11_order 47 = .ok (.getfield 43, 3) := by decide +kernel
theorem dX11_order_50 : decode cX11_order 50 = .ok (.getfield 97, 3) := by decide +kernel
theorem dX11_order_53 : decode cX11_order 53 = .ok (.aload_n 0, 1) := by decide +kernel
theorem dX11_order_54 : decode cX11_order 54 = .ok (.getfield 53, 3) := by decide +kernel
theorem dX11_order_57 : decode cX11_order 57 = .ok (.invokevirtual 199, 3) := by decide +kernel
theorem dX11_order_60 : decode cX11_order 60 = .ok (.iload_n 2, 1) := by decide +kernel
theorem dX11_order_61 : decode cX11_order 61 = .ok (.ifCond .eq 20, 3) := by decide +kernel
theorem dX11_order_64 : decode cX11_order 64 = .ok (.aload_n 0, 1) := by decide +kernel
theorem dX11_order_65 : decode cX11_order 65 = .ok (.getfield 43, 3) := by decide +kernel
theorem dX11_order_68 : decode cX11_order 68 = .ok (.getfield 190, 3) := by decide +kernel
theorem dX11_order_71 : decode cX11_order 71 = .ok (.iload_n 1, 1) := by decide +kernel
theorem dX11_order_72 : decode cX11_order 72 = .ok (.bipush 10, 2) := by decide +kernel
theorem dX11_order_74 : decode cX11_order 74 = .ok (.isub, 1) := by decide +kernel
theorem dX11_order_75 : decode cX11_order 75 = .ok (.invokevirtual 203, 3) := by decide +kernel
theorem dX11_order_78 : decode cX11_order 78 = .ok (.goto 13, 3) := by decide +kernel
theorem dX11_order_81 : decode cX11_order 81 = .ok (.aload_n 0, 1) := by decide +kernel
theorem dX11_order_82 : decode cX11_order 82 = .ok (.getfield 43, 3) := by decide +kernel
theorem dX11_order_85 : decode cX11_order 85 = .ok (.getfield 190, 3) := by decide +kernel
theorem dX11_order_88 : decode cX11_order 88 = .ok (.getfield 206, 3) := by decide +kernel
theorem dX11_order_91 : decode cX11_order 91 = .ok (.ireturn, 1) := by decide +kernel
set_option maxRecDepth 20000 in
theorem ggX11_high_X11_hasHills : GoodIn wsX11_high wsX11_hasHills := goodIn_r _ [9, 1, 3, 10, 100, 101, 102, 103, 104, 105, 106, 107, 108, 109, 110, 111, 112, 113, 114, 115, 116, 117] (by decide +kernel) (by decide +kernel)
set_option maxRecDepth 20000 in
theorem gX11_high_X11_hasHills : GoodIn wsX11_high (wsV RX11 137 RX11 yX11_hasHills wsX11_hasHills) := goodIn_app (goodIn_of _ (by decide +kernel)) ggX11_high_X11_hasHills
set_option maxRecDepth 20000 in
theorem ggX11_high_X5_highestRate : GoodIn wsX11_high wsX5_highestRate := goodIn_r _ [15, 16, 17, 18, 19, 14, 20, 21, 22, 23, 24, 25, 26, 27, 28, 29, 30, 31, 32, 33, 34, 35, 36, 37, 38, 39, 40, 41, 42, 43, 44, 45, 46, 47, 48, 49, 50, 51, 52, 53, 54, 55, 56, 57, 58, 59, 60, 61, 62, 63, 64, 65, 66, 67, 68, 69, 70, 71, 72, 73, 74, 75, 76, 77, 78, 79, 80, 81, 82, 83, 84, 85, 86, 87, 88, 89, 90, 91, 92, 93, 94, 95, 96, 97, 98, 99, 113, 114, 115, 116, 117, 118, 119, 120, 121, 122, 123] (by decide +kernel) (by decide +kernel)
set_option maxRecDepth 20000 in
theorem gX11_high_X5_highestRate : GoodIn wsX11_high (wsV RX11 209 RX5 yX5_highestRate wsX5_highestRate) := goodIn_app (goodIn_of _ (by decide +kernel)) ggX11_high_X5_highestRate
theorem dX11_high_0 : decode cX11_high 0 = .ok (.aload_n 0, 1) := by decide +kernel
theorem dX11_high_1 : decode cX11_high 1 = .ok (.invokevirtual 137, 3) := by decide +kernel
theorem dX11_high_4 : decode cX11_high 4 = .ok (.ifCond .eq 27, 3) := by decide +kernel
theorem dX11_high_7 : decode cX11_high 7 = .ok (.aload_n 0, 1) := by decide +kernel
theorem dX11_high_8 : decode cX11_high 8 = .ok (.getfield 43, 3) := by decide +kernel
theorem dX11_high_11 : decode cX11_high 11 = .ok (.getfield 190, 3) := by decide +kernel
theorem dX11_high_14 : decode cX11_high 14 = .ok (.aload_n 0, 1) := by decide +kernel
theorem dX11_high_15 : decode cX11_high 15 = .ok (.getfield 43, 3) := by decide +kernel
theorem dX11_high_18 : decode cX11_high 18 = .ok (.getfield 97, 3) := by decide +kernel
theorem dX11_high_21 : decode cX11_high 21 = .ok (.aload_n 0, 1) := by decide +kernel
theorem dX11_high_22 : decode cX11_high 22 = .ok (.getfield 53, 3) := by decide +kernel
theorem dX11_high_25 : decode cX11_high 25 = .ok (.invokevirtual 209, 3) := by decide +kernel
theorem dX11_high_28 : decode cX11_high 28 = .ok (.goto 5, 3) := by decide +kernel
theorem dX11_high_31 : decode cX11_high 31 = .ok (.bipush (-103), 2) := by decide +kernel
theorem dX11_high_33 : decode cX11_high 33 = .ok (.ireturn, 1) := by decide +kernel
set_option maxRecDepth 20000 in
theorem ggX11_tell_X11_isRate : GoodIn wsX11_tell wsX11_isRate := goodIn_r _ [7] (by decide +kernel) (by decide +kernel)
set_option maxRecDepth 20000 in
theorem gX11_tell_X11_isRate : GoodIn wsX11_tell (va_wsS RX11 134 yX11_isRate wsX11_isRate) := goodIn_app (goodIn_of _ (by decide +kernel)) ggX11_tell_X11_isRate
set_option maxRecDepth 20000 in
theorem ggX11_tell_X9_note : GoodIn wsX11_tell wsX9_note := goodIn_r _ [12, 13, 14, 15, 29, 30, 31] (by decide +kernel) (by decide +kernel)
set_option maxRecDepth 20000 in
theorem gX11_tell_X9_note : GoodIn wsX11_tell (wsV RX11 220 RX9 yX9_note wsX9_note) := goodIn_app (goodIn_of _ (by decide +kernel)) ggX11_tell_X9_note
theorem dX11_tell_0 : decode cX11_tell 0 = .ok (.iload_n 1, 1) := by decide +kernel
theorem dX11_tell_1 : decode cX11_tell 1 = .ok (.invokestatic 134, 3) := by decide +kernel
theorem dX11_tell_4 : decode cX11_tell 4 = .ok (.ifCond .eq 14, 3) := by decide +kernel
theorem dX11_tell_7 : decode cX11_tell 7 = .ok (.iload_n 2, 1) := by decide +kernel
theorem dX11_tell_8 : decode cX11_tell 8 = .ok (.iconst 1, 1) := by decide +kernel
theorem dX11_tell_9 : decode cX11_tell 9 = .ok (.if_icmp .lt 9, 3) := by decide +kernel
theorem dX11_tell_12 : decode cX11_tell 12 = .ok (.iload_n 2, 1) := by decide +kernel
theorem dX11_tell_13 : decode cX11_tell 13 = .ok (.bipush 20, 2) := by decide +kernel
theorem dX11_tell_15 : decode cX11_tell 15 = .ok (.if_icmp .le 6, 3) := by decide +kernel
theorem dX11_tell_18 : decode cX11_tell 18 = .ok (.bipush (-102), 2) := by decide +kernel
theorem dX11_tell_20 : decode cX11_tell 20 = .ok (.ireturn, 1) := by decide +kernel
theorem dX11_tell_21 : decode cX11_tell 21 = .ok (.aload_n 0, 1) := by decide +kernel
theorem dX11_tell_22 : decode cX11_tell 22 = .ok (.getfield 43, 3) := by decide +kernel
theorem dX11_tell_25 : decode cX11_tell 25 = .ok (.getfield 213, 3) := by decide +kernel
theorem dX11_tell_28 : decode cX11_tell 28 = .ok (.getfield 217, 3) := by decide +kernel
theorem dX11_tell_31 : decode cX11_tell 31 = .ok (.bipush 6, 2) := by decide +kernel
theorem dX11_tell_33 : decode cX11_tell 33 = .ok (.if_icmp .lt 6, 3) := by decide +kernel
theorem dX11_tell_36 : decode cX11_tell 36 = .ok (.bipush (-104), 2) := by decide +kernel
theorem dX11_tell_38 : decode cX11_tell 38 = .ok (.ireturn, 1) := by decide +kernel
theorem dX11_tell_39 : decode cX11_tell 39 = .ok (.aload_n 0, 1) := by decide +kernel
theorem dX11_tell_40 : decode cX11_tell 40 = .ok (.getfield 43, 3) := by decide +kernel
theorem dX11_tell_43 : decode cX11_tell 43 = .ok (.getfield 213, 3) := by decide +kernel
theorem dX11_tell_46 : decode cX11_tell 46 = .ok (.iload_n 1, 1) := by decide +kernel
theorem dX11_tell_47 : decode cX11_tell 47 = .ok (.iload_n 2, 1) := by decide +kernel
theorem dX11_tell_48 : decode cX11_tell 48 = .ok (.invokevirtual 220, 3) := by decide +kernel
theorem dX11_tell_51 : decode cX11_tell 51 = .ok (.ireturn, 1) := by decide +kernel
theorem dX11_forget_0 : decode cX11_forget 0 = .ok (.aload_n 0, 1) := by decide +kernel
theorem dX11_forget_1 : decode cX11_forget 1 = .ok (.getfield 43, 3) := by decide +kernel
theorem dX11_forget_4 : decode cX11_forget 4 = .ok (.getfield 213, 3) := by decide +kernel
theorem dX11_forget_7 : decode cX11_forget 7 = .ok (.getfield 217, 3) := by decide +kernel
theorem dX11_forget_10 : decode cX11_forget 10 = .ok (.istore_n 1, 1) := by decide +kernel
theorem dX11_forget_11 : decode cX11_forget 11 = .ok (.aload_n 0, 1) := by decide +kernel
theorem dX11_forget_12 : decode cX11_forget 12 = .ok (.getfield 43, 3) := by decide +kernel
theorem dX11_forget_15 : decode cX11_forget 15 = .ok (.getfield 213, 3) := by decide +kernel
theorem dX11_forget_18 : decode cX11_forget 18 = .ok (.iconst 0, 1) := by decide +kernel
theorem dX11_forget_19 : decode cX11_forget 19 = .ok (.putfield 217, 3) := by decide +kernel
theorem dX11_forget_22 : decode cX11_forget 22 = .ok (.iload_n 1, 1) := by decide +kernel
theorem dX11_forget_23 : decode cX11_forget 23 = .ok (.ireturn, 1) := by decide +kernel
set_option maxRecDepth 20000 in
theorem ggX11_which_X9_kindsLeft : GoodIn wsX11_which wsX9_kindsLeft := goodIn_r _ [8, 9, 10, 11, 7, 12, 13, 14, 15, 16, 17, 18, 19, 20, 21, 22, 23, 24, 25, 26, 27, 28, 29, 30, 31, 32, 33, 34, 35, 36, 37, 38, 39, 40, 41, 42, 43, 57, 58, 59] (by decide +kernel) (by decide +kernel)
set_option maxRecDepth 20000 in
theorem gX11_which_X9_kindsLeft : GoodIn wsX11_which (wsV RX11 221 RX9 yX9_kindsLeft wsX9_kindsLeft) := goodIn_app (goodIn_of _ (by decide +kernel)) ggX11_which_X9_kindsLeft
theorem dX11_which_0 : decode cX11_which 0 = .ok (.aload_n 0, 1) := by decide +kernel
theorem dX11_which_1 : decode cX11_which 1 = .ok (.getfield 43, 3) := by decide +kernel
theorem dX11_which_4 : decode cX11_which 4 = .ok (.getfield 213, 3) := by decide +kernel
theorem dX11_which_7 : decode cX11_which 7 = .ok (.aload_n 0, 1) := by decide +kernel
theorem dX11_which_8 : decode cX11_which 8 = .ok (.getfield 22, 3) := by decide +kernel
theorem dX11_which_11 : decode cX11_which 11 = .ok (.invokevirtual 221, 3) := by decide +kernel
theorem dX11_which_14 : decode cX11_which 14 = .ok (.ireturn, 1) := by decide +kernel
set_option maxRecDepth 20000 in
theorem ggX11_ask_X9_nextRate : GoodIn wsX11_ask wsX9_nextRate := goodIn_r _ [8, 9, 10, 11, 7, 12, 13, 14, 15, 16, 17, 18, 19, 20, 21, 22, 23, 24, 25, 26, 27, 28, 29, 30, 31, 32, 33, 34, 35, 36, 37, 38, 39, 40, 41, 42, 43, 44, 45, 46, 47, 48, 49, 50, 51, 52, 53, 54, 55, 56, 57, 71, 72, 73] (by decide +kernel) (by decide +kernel)
set_option maxRecDepth 20000 in
theorem gX11_ask_X9_nextRate : GoodIn wsX11_ask (wsV RX11 225 RX9 yX9_nextRate wsX9_nextRate) := goodIn_app (goodIn_of _ (by decide +kernel)) ggX11_ask_X9_nextRate
theorem dX11_ask_0 : decode cX11_ask 0 = .ok (.aload_n 0, 1) := by decide +kernel
theorem dX11_ask_1 : decode cX11_ask 1 = .ok (.getfield 43, 3) := by decide +kernel
theorem dX11_ask_4 : decode cX11_ask 4 = .ok (.getfield 213, 3) := by decide +kernel
theorem dX11_ask_7 : decode cX11_ask 7 = .ok (.aload_n 0, 1) := by decide +kernel
theorem dX11_ask_8 : decode cX11_ask 8 = .ok (.getfield 22, 3) := by decide +kernel
theorem dX11_ask_11 : decode cX11_ask 11 = .ok (.invokevirtual 225, 3) := by decide +kernel
theorem dX11_ask_14 : decode cX11_ask 14 = .ok (.ireturn, 1) := by decide +kernel
set_option maxRecDepth 20000 in
theorem ggX11_ages_X11_hasHills : GoodIn wsX11_ages wsX11_hasHills := goodIn_r _ [8, 2, 3, 9, 120, 121, 122, 123, 124, 125, 126, 127, 128, 129, 130, 131, 132, 133, 134, 135, 136, 137] (by decide +kernel) (by decide +kernel)
set_option maxRecDepth 20000 in
theorem gX11_ages_X11_hasHills : GoodIn wsX11_ages (wsV RX11 137 RX11 yX11_hasHills wsX11_hasHills) := goodIn_app (goodIn_of _ (by decide +kernel)) ggX11_ages_X11_hasHills
set_option maxRecDepth 20000 in
theorem ggX11_ages_X2_copyFrom : GoodIn wsX11_ages wsX2_copyFrom := goodIn_r _ [14, 15, 16, 17, 18, 133, 134, 135, 136, 137] (by decide +kernel) (by decide +kernel)
set_option maxRecDepth 20000 in
theorem gX11_ages_X2_copyFrom : GoodIn wsX11_ages (wsV RX11 228 RX2 yX2_copyFrom wsX2_copyFrom) := goodIn_app (goodIn_of _ (by decide +kernel)) ggX11_ages_X2_copyFrom
set_option maxRecDepth 20000 in
theorem ggX11_ages_X2_live : GoodIn wsX11_ages wsX2_live := goodIn_r _ [22, 23, 24, 13, 25, 26, 27, 28, 29, 30, 31, 32, 15, 33, 34, 35, 36, 37, 38, 39, 40, 41, 42, 43, 44, 45, 46, 16, 47, 48, 49, 50, 51, 52, 53, 54, 55, 56, 57, 58, 59, 60, 61, 62, 63, 64, 65, 66, 67, 68, 69, 70, 71, 72, 73, 74, 75, 76, 77, 78, 17, 79, 80, 81, 18, 82, 83, 84, 85, 86, 87, 88, 89, 90, 91, 92, 93, 94, 95, 96, 97, 98, 99, 100, 101, 102, 103, 104, 105, 106, 107, 133, 134, 135, 136, 137] (by decide +kernel) (by decide +kernel)
set_option maxRecDepth 20000 in
theorem gX11_ages_X2_live : GoodIn wsX11_ages (wsV RX11 232 RX2 yX2_live wsX2_live) := goodIn_app (goodIn_of _ (by decide +kernel)) ggX11_ages_X2_live
set_option maxRecDepth 20000 in
theorem ggX11_ages_X2_allOwed : GoodIn wsX11_ages wsX2_allOwed := goodIn_r _ [111, 15, 112, 113, 114, 13, 115, 18, 133, 134, 135, 136, 137] (by decide +kernel) (by decide +kernel)
set_option maxRecDepth 20000 in
theorem gX11_ages_X2_allOwed : GoodIn wsX11_ages (wsV RX11 184 RX2 yX2_allOwed wsX2_allOwed) := goodIn_app (goodIn_of _ (by decide +kernel)) ggX11_ages_X2_allOwed
set_option maxRecDepth 20000 in
theorem ggX11_ages_X2_allCows : GoodIn wsX11_ages wsX2_allCows := goodIn_r _ [119, 15, 17, 133, 134, 135, 136, 137] (by decide +kernel) (by decide +kernel)
set_option maxRecDepth 20000 in
theorem gX11_ages_X2_allCows : GoodIn wsX11_ages (wsV RX11 235 RX2 yX2_allCows wsX2_allCows) := goodIn_app (goodIn_of _ (by decide +kernel)) ggX11_ages_X2_allCows
theorem dX11_ages_0 : decode cX11_ages 0 = .ok (.iload_n 1, 1) := by decide +kernel
theorem dX11_ages_1 : decode cX11_ages 1 = .ok (.iconst 1, 1) := by decide +kernel
theorem dX11_ages_2 : decode cX11_ages 2 = .ok (.if_icmp .lt 22, 3) := by decide +kernel
theorem dX11_ages_5 : decode cX11_ages 5 = .ok (.iload_n 1, 1) := by decide +kernel
theorem dX11_ages_6 : decode cX11_ages 6 = .ok (.bipush 40, 2) := by decide +kernel
theorem dX11_ages_8 : decode cX11_ages 8 = .ok (.if_icmp .gt 16, 3) := by decide +kernel
theorem dX11_ages_11 : decode cX11_ages 11 = .ok (.iload_n 2, 1) := by decide +kernel
theorem dX11_ages_12 : decode cX11_ages 12 = .ok (.ifCond .lt 12, 3) := by decide +kernel
theorem dX11_ages_15 : decode cX11_ages 15 = .ok (.iload_n 3, 1) := by decide +kernel
theorem dX11_ages_16 : decode cX11_ages 16 = .ok (.ifCond .lt 8, 3) := by decide +kernel
theorem dX11_ages_19 : decode cX11_ages 19 = .ok (.iload_n 3, 1) := by decide +kernel
theorem dX11_ages_20 : decode cX11_ages 20 = .ok (.iconst 2, 1) := by decide +kernel
theorem dX11_ages_21 : decode cX11_ages 21 = .ok (.if_icmp .le 6, 3) := by decide +kernel
theorem dX11_ages_24 : decode cX11_ages 24 = .ok (.bipush (-102), 2) := by decide +kernel
theorem dX11_ages_26 : decode cX11_ages 26 = .ok (.ireturn, 1) := by decide +kernel
theorem dX11_ages_27 : decode cX11_ages 27 = .ok (.aload_n 0, 1) := by decide +kernel
theorem dX11_ages_28 : decode cX11_ages 28 = .ok (.invokevirtual 137, 3) := by decide +kernel
theorem dX11_ages_31 : decode cX11_ages 31 = .ok (.ifCond .ne 6, 3) := by decide +kernel
theorem dX11_ages_34 : decode cX11_ages 34 = .ok (.bipush (-103), 2) := by decide +kernel
theorem dX11_ages_36 : decode cX11_ages 36 = .ok (.ireturn, 1) := by decide +kernel
theorem dX11_ages_37 : decode cX11_ages 37 = .ok (.aload_n 0, 1) := by decide +kernel
theorem dX11_ages_38 : decode cX11_ages 38 = .ok (.getfield 53, 3) := by decide +kernel
theorem dX11_ages_41 : decode cX11_ages 41 = .ok (.aload_n 0, 1) := by decide +kernel
theorem dX11_ages_42 : decode cX11_ages 42 = .ok (.getfield 43, 3) := by decide +kernel
theorem dX11_ages_45 : decode cX11_ages 45 = .ok (.getfield 97, 3) := by decide +kernel
theorem dX11_ages_48 : decode cX11_ages 48 = .ok (.invokevirtual 228, 3) := by decide +kernel
theorem dX11_ages_51 : decode cX11_ages 51 = .ok (.aload_n 0, 1) := by decide +kernel
theorem dX11_ages_52 : decode cX11_ages 52 = .ok (.getfield 53, 3) := by decide +kernel
theorem dX11_ages_55 : decode cX11_ages 55 = .ok (.iload_n 1, 1) := by decide +kernel
theorem dX11_ages_56 : decode cX11_ages 56 = .ok (.iload_n 2, 1) := by decide +kernel
theorem dX11_ages_57 : decode cX11_ages 57 = .ok (.invokevirtual 232, 3) := by decide +kernel
theorem dX11_ages_60 : decode cX11_ages 60 = .ok (.istore 4, 2) := by decide +kernel
theorem dX11_ages_62 : decode cX11_ages 62 = .ok (.iload_n 3, 1) := by decide +kernel
theorem dX11_ages_63 : decode cX11_ages 63 = .ok (.lookupswitch 41 #[(0, 25), (1, 33)], 25) := by decide +kernel
theorem dX11_ages_88 : decode cX11_ages 88 = .ok (.aload_n 0, 1) := by decide +kernel
theorem dX11_ages_89 : decode cX11_ages 89 = .ok (.getfield 53, 3) := by decide +kernel
theorem dX11_ages_92 : decode cX11_ages 92 = .ok (.invokevirtual 184, 3) := by decide +kernel
theorem dX11_ages_95 : decode cX11_ages 95 = .ok (.ireturn, 1) := by decide +kernel
theorem dX11_ages_96 : decode cX11_ages 96 = .ok (.aload_n 0, 1) := by decide +kernel
theorem dX11_ages_97 : decode cX11_ages 97 = .ok (.getfield 53, 3) := by decide +kernel
theorem dX11_ages_100 : decode cX11_ages 100 = .ok (.invokevirtual 235, 3) := by decide +kernel
theorem dX11_ages_103 : decode cX11_ages 103 = .ok (.ireturn, 1) := by decide +kernel
theorem dX11_ages_104 : decode cX11_ages 104 = .ok (.iload 4, 2) := by decide +kernel
theorem dX11_ages_106 : decode cX11_ages 106 = .ok (.ireturn, 1) := by decide +kernel
set_option maxRecDepth 20000 in
theorem ggX11_image_X11_hasHills : GoodIn wsX11_image wsX11_hasHills := goodIn_r _ [9, 2, 10, 11, 57, 58, 59, 60, 61, 62, 63, 64, 65, 66, 67, 68, 69, 70, 71, 72, 73, 74] (by decide +kernel) (by decide +kernel)
set_option maxRecDepth 20000 in
theorem gX11_image_X11_hasHills : GoodIn wsX11_image (wsV RX11 137 RX11 yX11_hasHills wsX11_hasHills) := goodIn_app (goodIn_of _ (by decide +kernel)) ggX11_image_X11_hasHills
set_option maxRecDepth 20000 in
theorem ggX11_image_X8_copyFrom : GoodIn wsX11_image wsX8_copyFrom := goodIn_r _ [16, 17, 18, 19, 20, 21, 22, 23, 24, 25, 26, 27, 28, 29, 30, 31, 32, 33, 34, 35, 36, 37, 38, 39, 40, 41, 42, 43, 44, 45, 46, 47, 48, 49, 50, 51, 52, 53, 54, 55, 56, 65, 66, 67, 68, 69, 70, 71, 72, 73, 74, 75, 76, 77, 78, 79, 80, 81, 82, 83, 84, 85, 86, 87, 88] (by decide +kernel) (by decide +kernel)
set_option maxRecDepth 20000 in
theorem gX11_image_X8_copyFrom : GoodIn wsX11_image (wsV RX11 238 RX8 yX8_copyFrom wsX8_copyFrom) := goodIn_app (goodIn_of _ (by decide +kernel)) ggX11_image_X8_copyFrom
theorem dX11_image_0 : decode cX11_image 0 = .ok (.aload_n 0, 1) := by decide +kernel
theorem dX11_image_1 : decode cX11_image 1 = .ok (.invokevirtual 137, 3) := by decide +kernel
theorem dX11_image_4 : decode cX11_image 4 = .ok (.ifCond .ne 6, 3) := by decide +kernel
theorem dX11_image_7 : decode cX11_image 7 = .ok (.bipush (-103), 2) := by decide +kernel
theorem dX11_image_9 : decode cX11_image 9 = .ok (.ireturn, 1) := by decide +kernel
theorem dX11_image_10 : decode cX11_image 10 = .ok (.aload_n 0, 1) := by decide +kernel
theorem dX11_image_11 : decode cX11_image 11 = .ok (.getfield 47, 3) := by decide +kernel
theorem dX11_image_14 : decode cX11_image 14 = .ok (.aload_n 0, 1) := by decide +kernel
theorem dX11_image_15 : decode cX11_image 15 = .ok (.getfield 43, 3) := by decide +kernel
theorem dX11_image_18 : decode cX11_image 18 = .ok (.invokevirtual 238, 3) := by decide +kernel
theorem dX11_image_21 : decode cX11_image 21 = .ok (.aload_n 0, 1) := by decide +kernel
theorem dX11_image_22 : decode cX11_image 22 = .ok (.iconst 1, 1) := by decide +kernel
theorem dX11_image_23 : decode cX11_image 23 = .ok (.putfield 57, 3) := by decide +kernel
theorem dX11_image_26 : decode cX11_image 26 = .ok (.aload_n 0, 1) := by decide +kernel
theorem dX11_image_27 : decode cX11_image 27 = .ok (.getfield 47, 3) := by decide +kernel
theorem dX11_image_30 : decode cX11_image 30 = .ok (.getfield 181, 3) := by decide +kernel
theorem dX11_image_33 : decode cX11_image 33 = .ok (.ireturn, 1) := by decide +kernel
set_option maxRecDepth 20000 in
theorem ggX11_restore_X8_copyFrom : GoodIn wsX11_restore wsX8_copyFrom := goodIn_r _ [9, 10, 11, 12, 13, 14, 15, 16, 17, 18, 19, 20, 21, 22, 23, 24, 25, 26, 27, 28, 29, 30, 31, 32, 33, 34, 35, 36, 37, 38, 39, 40, 41, 42, 43, 44, 45, 46, 47, 48, 49, 58, 59, 60, 61, 62, 63, 64, 65, 66, 67, 68, 69, 70, 71, 72, 73, 74, 75, 76, 77, 78, 79, 80, 81] (by decide +kernel) (by decide +kernel)
set_option maxRecDepth 20000 in
theorem gX11_restore_X8_copyFrom : GoodIn wsX11_restore (wsV RX11 238 RX8 yX8_copyFrom wsX8_copyFrom) := goodIn_app (goodIn_of _ (by decide +kernel)) ggX11_restore_X8_copyFrom
theorem dX11_restore_0 : decode cX11_restore 0 = .ok (.aload_n 0, 1) := by decide +kernel
theorem dX11_restore_1 : decode cX11_restore 1 = .ok (.getfield 57, 3) := by decide +kernel
theorem dX11_restore_4 : decode cX11_restore 4 = .ok (.ifCond .ne 6, 3) := by decide +kernel
theorem dX11_restore_7 : decode cX11_restore 7 = .ok (.bipush (-103), 2) := by decide +kernel
theorem dX11_restore_9 : decode cX11_restore 9 = .ok (.ireturn, 1) := by decide +kernel
theorem dX11_restore_10 : decode cX11_restore 10 = .ok (.aload_n 0, 1) := by decide +kernel
theorem dX11_restore_11 : decode cX11_restore 11 = .ok (.getfield 43, 3) := by decide +kernel
theorem dX11_restore_14 : decode cX11_restore 14 = .ok (.aload_n 0, 1) := by decide +kernel
theorem dX11_restore_15 : decode cX11_restore 15 = .ok (.getfield 47, 3) := by decide +kernel
theorem dX11_restore_18 : decode cX11_restore 18 = .ok (.invokevirtual 238, 3) := by decide +kernel
theorem dX11_restore_21 : decode cX11_restore 21 = .ok (.aload_n 0, 1) := by decide +kernel
theorem dX11_restore_22 : decode cX11_restore 22 = .ok (.getfield 43, 3) := by decide +kernel
theorem dX11_restore_25 : decode cX11_restore 25 = .ok (.getfield 181, 3) := by decide +kernel
theorem dX11_restore_28 : decode cX11_restore 28 = .ok (.ireturn, 1) := by decide +kernel
set_option maxRecDepth 20000 in
theorem ggX11_count_X2_allCows : GoodIn wsX11_count wsX2_allCows := goodIn_r _ [19, 20, 21, 44, 45, 46, 47, 48] (by decide +kernel) (by decide +kernel)
set_option maxRecDepth 20000 in
theorem gX11_count_X2_allCows : GoodIn wsX11_count (wsV RX11 235 RX2 yX2_allCows wsX2_allCows) := goodIn_app (goodIn_of _ (by decide +kernel)) ggX11_count_X2_allCows
set_option maxRecDepth 20000 in
theorem ggX11_count_X2_allOwed : GoodIn wsX11_count wsX2_allOwed := goodIn_r _ [25, 20, 26, 27, 28, 18, 29, 30, 44, 45, 46, 47, 48] (by decide +kernel) (by decide +kernel)
set_option maxRecDepth 20000 in
theorem gX11_count_X2_allOwed : GoodIn wsX11_count (wsV RX11 184 RX2 yX2_allOwed wsX2_allOwed) := goodIn_app (goodIn_of _ (by decide +kernel)) ggX11_count_X2_allOwed
theorem dX11_count_0 : decode cX11_count 0 = .ok (.iload_n 1, 1) := by decide +kernel
theorem dX11_count_1 : decode cX11_count 1 = .ok (.tableswitch 153 0 9 #[55, 66, 77, 88, 99, 110, 118, 129, 140, 148], 55) := by decide +kernel
theorem dX11_count_56 : decode cX11_count 56 = .ok (.aload_n 0, 1) := by decide +kernel
theorem dX11_count_57 : decode cX11_count 57 = .ok (.getfield 43, 3) := by decide +kernel
theorem dX11_count_60 : decode cX11_count 60 = .ok (.getfield 97, 3) := by decide +kernel
theorem dX11_count_63 : decode cX11_count 63 = .ok (.getfield 241, 3) := by decide +kernel
theorem dX11_count_66 : decode cX11_count 66 = .ok (.ireturn, 1) := by decide +kernel
theorem dX11_count_67 : decode cX11_count 67 = .ok (.aload_n 0, 1) := by decide +kernel
theorem dX11_count_68 : decode cX11_count 68 = .ok (.getfield 43, 3) := by decide +kernel
theorem dX11_count_71 : decode cX11_count 71 = .ok (.getfield 97, 3) := by decide +kernel
theorem dX11_count_74 : decode cX11_count 74 = .ok (.getfield 140, 3) := by decide +kernel
theorem dX11_count_77 : decode cX11_count 77 = .ok (.ireturn, 1) := by decide +kernel
theorem dX11_count_78 : decode cX11_count 78 = .ok (.aload_n 0, 1) := by decide +kernel
theorem dX11_count_79 : decode cX11_count 79 = .ok (.getfield 43, 3) := by decide +kernel
theorem dX11_count_82 : decode cX11_count 82 = .ok (.getfield 97, 3) := by decide +kernel
theorem dX11_count_85 : decode cX11_count 85 = .ok (.invokevirtual 235, 3) := by decide +kernel
theorem dX11_count_88 : decode cX11_count 88 = .ok (.ireturn, 1) := by decide +kernel
theorem dX11_count_89 : decode cX11_count 89 = .ok (.aload_n 0, 1) := by decide +kernel
theorem dX11_count_90 : decode cX11_count 90 = .ok (.getfield 43, 3) := by decide +kernel
theorem dX11_count_93 : decode cX11_count 93 = .ok (.getfield 97, 3) := by decide +kernel
theorem dX11_count_96 : decode cX11_count 96 = .ok (.invokevirtual 184, 3) := by decide +kernel
theorem dX11_count_99 : decode cX11_count 99 = .ok (.ireturn, 1) := by decide +kernel
theorem dX11_count_100 : decode cX11_count 100 = .ok (.aload_n 0, 1) := by decide +kernel
theorem dX11_count_101 : decode cX11_count 101 = .ok (.getfield 43, 3) := by decide +kernel
theorem dX11_count_104 : decode cX11_count 104 = .ok (.getfield 147, 3) := by decide +kernel
theorem dX11_count_107 : decode cX11_count 107 = .ok (.getfield 151, 3) := by decide +kernel
theorem dX11_count_110 : decode cX11_count 110 = .ok (.ireturn, 1) := by decide +kernel
theorem dX11_count_111 : decode cX11_count 111 = .ok (.aload_n 0, 1) := by decide +kernel
theorem dX11_count_112 : decode cX11_count 112 = .ok (.getfield 43, 3) := by decide +kernel
theorem dX11_count_115 : decode cX11_count 115 = .ok (.getfield 181, 3) := by decide +kernel
theorem dX11_count_118 : decode cX11_count 118 = .ok (.ireturn, 1) := by decide +kernel
theorem dX11_count_119 : decode cX11_count 119 = .ok (.aload_n 0, 1) := by decide +kernel
theorem dX11_count_120 : decode cX11_count 120 = .ok (.getfield 43, 3) := by decide +kernel
theorem dX11_count_123 : decode cX11_count 123 = .ok (.getfield 190, 3) := by decide +kernel
theorem dX11_count_126 : decode cX11_count 126 = .ok (.getfield 194, 3) := by decide +kernel
theorem dX11_count_129 : decode cX11_count 129 = .ok (.ireturn, 1) := by decide +kernel
theorem dX11_count_130 : decode cX11_count 130 = .ok (.aload_n 0, 1) := by decide +kernel
theorem dX11_count_131 : decode cX11_count 131 = .ok (.getfield 43, 3) := by decide +kernel
theorem dX11_count_134 : decode cX11_count 134 = .ok (.getfield 213, 3) := by decide +kernel
theorem dX11_count_137 : decode cX11_count 137 = .ok (.getfield 217, 3) := by decide +kernel
theorem dX11_count_140 : decode cX11_count 140 = .ok (.ireturn, 1) := by decide +kernel
theorem dX11_count_141 : decode cX11_count 141 = .ok (.aload_n 0, 1) := by decide +kernel
theorem dX11_count_142 : decode cX11_count 142 = .ok (.getfield 34, 3) := by decide +kernel
theorem dX11_count_145 : decode cX11_count 145 = .ok (.getfield 65, 3) := by decide +kernel
theorem dX11_count_148 : decode cX11_count 148 = .ok (.ireturn, 1) := by decide +kernel
theorem dX11_count_149 : decode cX11_count 149 = .ok (.aload_n 0, 1) := by decide +kernel
theorem dX11_count_150 : decode cX11_count 150 = .ok (.getfield 61, 3) := by decide +kernel
theorem dX11_count_153 : decode cX11_count 153 = .ok (.ireturn, 1) := by decide +kernel
theorem dX11_count_154 : decode cX11_count 154 = .ok (.bipush (-102), 2) := by decide +kernel
theorem dX11_count_156 : decode cX11_count 156 = .ok (.ireturn, 1) := by decide +kernel
set_option maxRecDepth 20000 in
theorem ggX11_digest_X11_clan : GoodIn wsX11_digest wsX11_clan := goodIn_r _ [15, 2, 3, 16, 17, 18, 19, 20, 21, 22, 23, 24, 25, 26, 27, 28, 29, 30, 31, 32, 33, 34, 35, 36, 37, 38, 39, 40, 41, 42, 43, 44, 45, 46, 47, 48, 49, 50, 51, 52, 53, 54, 55, 56, 57, 58, 59, 60, 61, 62, 63, 64, 65, 66, 67, 68, 69, 70, 71, 72, 73, 74, 75, 76, 77, 78, 79, 80, 81, 82, 83, 84, 85, 86, 87, 88, 89, 90, 91, 92, 93, 94, 95, 96, 97, 98, 99, 100, 101, 102, 103, 104, 105, 259, 260, 261, 262, 263, 264, 265, 266, 267, 268, 269, 270, 271, 272, 273, 274, 275, 276] (by decide +kernel) (by decide +kernel)
set_option maxRecDepth 20000 in
theorem gX11_digest_X11_clan : GoodIn wsX11_digest (wsV RX11 247 RX11 yX11_clan wsX11_clan) := goodIn_app (goodIn_of _ (by decide +kernel)) ggX11_digest_X11_clan
set_option maxRecDepth 20000 in
theorem ggX11_digest_X11_mixed : GoodIn wsX11_digest wsX11_mixed := goodIn_r _ [108, 109] (by decide +kernel) (by decide +kernel)
set_option maxRecDepth 20000 in
theorem gX11_digest_X11_mixed : GoodIn wsX11_digest (va_wsS RX11 250 yX11_mixed wsX11_mixed) := goodIn_app (goodIn_of _ (by decide +kernel)) ggX11_digest_X11_mixed
set_option maxRecDepth 20000 in
theorem ggX11_digest_X11_wedding : GoodIn wsX11_digest wsX11_wedding := goodIn_r _ [113, 2, 6, 114, 115, 116, 117, 118, 119, 120, 121, 122, 123, 259, 260, 261, 262, 263, 264, 265, 266, 267, 268, 269, 270, 271, 277, 278, 279, 280, 281] (by decide +kernel) (by decide +kernel)
set_option maxRecDepth 20000 in
theorem gX11_digest_X11_wedding : GoodIn wsX11_digest (wsV RX11 254 RX11 yX11_wedding wsX11_wedding) := goodIn_app (goodIn_of _ (by decide +kernel)) ggX11_digest_X11_wedding
set_option maxRecDepth 20000 in
theorem ggX11_digest_X11_hasHills : GoodIn wsX11_digest wsX11_hasHills := goodIn_r _ [127, 2, 3, 4, 259, 260, 261, 262, 263, 264, 265, 266, 267, 268, 269, 270, 271, 272, 273, 274, 275, 276] (by decide +kernel) (by decide +kernel)
set_option maxRecDepth 20000 in
theorem gX11_digest_X11_hasHills : GoodIn wsX11_digest (wsV RX11 137 RX11 yX11_hasHills wsX11_hasHills) := goodIn_app (goodIn_of _ (by decide +kernel)) ggX11_digest_X11_hasHills
set_option maxRecDepth 20000 in
theorem ggX11_digest_X11_mixedShallBe : GoodIn wsX11_digest wsX11_mixedShallBe := goodIn_r _ [131, 2, 3, 132, 133, 134, 135, 136, 137, 22, 138, 24, 139, 75, 76, 77, 140, 103, 104, 105, 101, 141, 98, 99, 100, 106, 107, 14, 108, 109, 142, 143, 144, 145, 146, 147, 148, 149, 150, 151, 152, 153, 154, 155, 156, 157, 158, 159, 160, 161, 54, 83, 162, 163, 164, 165, 166, 167, 168, 169, 170, 171, 172, 53, 55, 56, 57, 58, 36, 59, 60, 61, 62, 63, 64, 39, 65, 66, 67, 68, 69, 47, 70, 71, 72, 43, 73, 74, 78, 173, 174, 175, 176, 177, 178, 179, 84, 85, 86, 87, 88, 30, 89, 90, 91, 92, 93, 94, 95, 96, 180, 181, 182, 183, 184, 185, 186, 187, 188, 189, 190, 191, 192, 193, 194, 195, 196, 197, 198, 199, 200, 201, 202, 203, 204, 205, 259, 260, 261, 262, 263, 264, 265, 266, 267, 268, 269, 270, 271, 284, 285, 286, 287, 288, 289, 272, 273, 274, 275, 276] (by decide +kernel) (by decide +kernel)
set_option maxRecDepth 20000 in
theorem gX11_digest_X11_mixedShallBe : GoodIn wsX11_digest (wsV RX11 257 RX11 yX11_mixedShallBe wsX11_mixedShallBe) := goodIn_app (goodIn_of _ (by decide +kernel)) ggX11_digest_X11_mixedShallBe
set_option maxRecDepth 20000 in
theorem ggX11_digest_X11_which : GoodIn wsX11_digest wsX11_which := goodIn_r _ [209, 2, 210, 211, 212, 213, 214, 215, 216, 217, 218, 219, 220, 221, 222, 223, 224, 56, 57, 58, 36, 59, 225, 61, 62, 63, 64, 39, 65, 66, 67, 68, 69, 47, 70, 71, 72, 43, 73, 74, 75, 76, 77, 78, 259, 260, 261, 262, 263, 264, 265, 266, 267, 268, 269, 270, 271, 290, 291, 292] (by decide +kernel) (by decide +kernel)
set_option maxRecDepth 20000 in
theorem gX11_digest_X11_which : GoodIn wsX11_digest (wsV RX11 261 RX11 yX11_which wsX11_which) := goodIn_app (goodIn_of _ (by decide +kernel)) ggX11_digest_X11_which
set_option maxRecDepth 20000 in
theorem ggX11_digest_X11_ask : GoodIn wsX11_digest wsX11_ask := goodIn_r _ [229, 2, 210, 211, 230, 231, 232, 215, 233, 234, 213, 214, 216, 217, 218, 219, 220, 221, 222, 223, 224, 56, 57, 58, 36, 59, 225, 61, 62, 63, 64, 39, 65, 66, 67, 68, 69, 47, 70, 71, 72, 43, 73, 74, 75, 76, 77, 78, 235, 236, 237, 238, 239, 240, 241, 242, 243, 244, 259, 260, 261, 262, 263, 264, 265, 266, 267, 268, 269, 270, 271, 290, 291, 292] (by decide +kernel) (by decide +kernel)
set_option maxRecDepth 20000 in
theorem gX11_digest_X11_ask : GoodIn wsX11_digest (wsV RX11 264 RX11 yX11_ask wsX11_ask) := goodIn_app (goodIn_of _ (by decide +kernel)) ggX11_digest_X11_ask
set_option maxRecDepth 20000 in
theorem ggX11_digest_X11_count : GoodIn wsX11_digest wsX11_count := goodIn_r _ [248, 2, 3, 4, 249, 6, 7, 250, 132, 251, 210, 252, 8, 9, 253, 254, 255, 256, 22, 257, 24, 83, 258, 181, 182, 183, 141, 98, 99, 100, 101, 259, 260, 261, 262, 263, 264, 265, 266, 267, 268, 269, 270, 271, 272, 273, 274, 275, 276, 277, 278, 279, 280, 281, 284, 285, 286, 287, 288, 289, 290, 291, 292, 282, 283] (by decide +kernel) (by decide +kernel)
set_option maxRecDepth 20000 in
theorem gX11_digest_X11_count : GoodIn wsX11_digest (wsV RX11 270 RX11 yX11_count wsX11_count) := goodIn_app (goodIn_of _ (by decide +kernel)) ggX11_digest_X11_count
theorem dX11_digest_0 : decode cX11_digest 0 = .ok (.ldc2_w 242, 3) := by decide +kernel
theorem dX11_digest_3 : decode cX11_digest 3 = .ok (.lstore_n 1, 1) := by decide +kernel
theorem dX11_digest_4 : decode cX11_digest 4 = .ok (.iconst 0, 1) := by decide +kernel
theorem dX11_digest_5 : decode cX11_digest 5 = .ok (.istore_n 3, 1) := by decide +kernel
theorem dX11_digest_6 : decode cX11_digest 6 = .ok (.iload_n 3, 1) := by decide +kernel
theorem dX11_digest_7 : decode cX11_digest 7 = .ok (.aload_n 0, 1) := by decide +kernel
theorem dX11_digest_8 : decode cX11_digest 8 = .ok (.getfield 43, 3) := by decide +kernel
theorem dX11_digest_11 : decode cX11_digest 11 = .ok (.getfield 97, 3) := by decide +kernel
theorem dX11_digest_14 : decode cX11_digest 14 = .ok (.getfield 241, 3) := by decide +kernel
theorem dX11_digest_17 : decode cX11_digest 17 = .ok (.if_icmp .ge 55, 3) := by decide +kernel
theorem dX11_digest_20 : decode cX11_digest 20 = .ok (.getstatic 244, 3) := by decide +kernel
theorem dX11_digest_23 : decode cX11_digest 23 = .ok (.astore 4, 2) := by decide +kernel
theorem dX11_digest_25 : decode cX11_digest 25 = .ok (.aload 4, 2) := by decide +kernel
theorem dX11_digest_27 : decode cX11_digest 27 = .ok (.arraylength, 1) := by decide +kernel
theorem dX11_digest_28 : decode cX11_digest 28 = .ok (.istore 5, 2) := by decide +kernel
theorem dX11_digest_30 : decode cX11_digest 30 = .ok (.iconst 0, 1) := by decide +kernel
theorem dX11_digest_31 : decode cX11_digest 31 = .ok (.istore 6, 2) := by decide +kernel
theorem dX11_digest_33 : decode cX11_digest 33 = .ok (.iload 6, 2) := by decide +kernel
theorem dX11_digest_35 : decode cX11_digest 35 = .ok (.iload 5, 2) := by decide +kernel
theorem dX11_digest_37 : decode cX11_digest 37 = .ok (.if_icmp .ge 29, 3) := by decide +kernel
theorem dX11_digest_40 : decode cX11_digest 40 = .ok (.aload 4, 2) := by decide +kernel
theorem dX11_digest_42 : decode cX11_digest 42 = .ok (.iload 6, 2) := by decide +kernel
theorem dX11_digest_44 : decode cX11_digest 44 = .ok (.iaload, 1) := by decide +kernel
theorem dX11_digest_45 : decode cX11_digest 45 = .ok (.istore 7, 2) := by decide +kernel
theorem dX11_digest_47 : decode cX11_digest 47 = .ok (.lload_n 1, 1) := by decide +kernel
theorem dX11_digest_48 : decode cX11_digest 48 = .ok (.aload_n 0, 1) := by decide +kernel
theorem dX11_digest_49 : decode cX11_digest 49 = .ok (.iload_n 3, 1) := by decide +kernel
theorem dX11_digest_50 : decode cX11_digest 50 = .ok (.iload 7, 2) := by decide +kernel
theorem dX11_digest_52 : decode cX11_digest 52 = .ok (.invokevirtual 247, 3) := by decide +kernel
theorem dX11_digest_55 : decode cX11_digest 55 = .ok (.i2l, 1) := by decide +kernel
theorem dX11_digest_56 : decode cX11_digest 56 = .ok (.invokestatic 250, 3) := by decide +kernel
theorem dX11_digest_59 : decode cX11_digest 59 = .ok (.lstore_n 1, 1) := by decide +kernel
theorem dX11_digest_60 : decode cX11_digest 60 = .ok (.iinc 6 1, 3) := by decide +kernel
theorem dX11_digest_63 : decode cX11_digest 63 = .ok (.goto (-30), 3) := by decide +kernel
theorem dX11_digest_66 : decode cX11_digest 66 = .ok (.iinc 3 1, 3) := by decide +kernel
theorem dX11_digest_69 : decode cX11_digest 69 = .ok (.goto (-63), 3) := by decide +kernel
theorem dX11_digest_72 : decode cX11_digest 72 = .ok (.iconst 0, 1) := by decide +kernel
theorem dX11_digest_73 : decode cX11_digest 73 = .ok (.istore_n 3, 1) := by decide +kernel
theorem dX11_digest_74 : decode cX11_digest 74 = .ok (.iload_n 3, 1) := by decide +kernel
theorem dX11_digest_75 : decode cX11_digest 75 = .ok (.aload_n 0, 1) := by decide +kernel
theorem dX11_digest_76 : decode cX11_digest 76 = .ok (.getfield 43, 3) := by decide +kernel
theorem dX11_digest_79 : decode cX11_digest 79 = .ok (.getfield 147, 3) := by decide +kernel
theorem dX11_digest_82 : decode cX11_digest 82 = .ok (.getfield 151, 3) := by decide +kernel
theorem dX11_digest_85 : decode cX11_digest 85 = .ok (.if_icmp .ge 37, 3) := by decide +kernel
theorem dX11_digest_88 : decode cX11_digest 88 = .ok (.iconst 0, 1) := by decide +kernel
theorem dX11_digest_89 : decode cX11_digest 89 = .ok (.istore 4, 2) := by decide +kernel
theorem dX11_digest_91 : decode cX11_digest 91 = .ok (.iload 4, 2) := by decide +kernel
theorem dX11_digest_93 : decode cX11_digest 93 = .ok (.iconst 4, 1) := by decide +kernel
theorem dX11_digest_94 : decode cX11_digest 94 = .ok (.if_icmp .ge 22, 3) := by decide +kernel
theorem dX11_digest_97 : decode cX11_digest 97 = .ok (.lload_n 1, 1) := by decide +kernel
theorem dX11_digest_98 : decode cX11_digest 98 = .ok (.aload_n 0, 1) := by decide +kernel
theorem dX11_digest_99 : decode cX11_digest 99 = .ok (.iload_n 3, 1) := by decide +kernel
theorem dX11_digest_100 : decode cX11_digest 100 = .ok (.iload 4, 2) := by decide +kernel
theorem dX11_digest_102 : decode cX11_digest 102 = .ok (.invokevirtual 254, 3) := by decide +kernel
theorem dX11_digest_105 : decode cX11_digest 105 = .ok (.i2l, 1) := by decide +kernel
theorem dX11_digest_106 : decode cX11_digest 106 = .ok (.invokestatic 250, 3) := by decide +kernel
theorem dX11_digest_109 : decode cX11_digest 109 = .ok (.lstore_n 1, 1) := by decide +kernel
theorem dX11_digest_110 : decode cX11_digest 110 = .ok (.iinc 4 1, 3) := by decide +kernel
theorem dX11_digest_113 : decode cX11_digest 113 = .ok (.goto (-22), 3) := by decide +kernel
theorem dX11_digest_116 : decode cX11_digest 116 = .ok (.iinc 3 1, 3) := by decide +kernel
theorem dX11_digest_119 : decode cX11_digest 119 = .ok (.goto (-45), 3) := by decide +kernel
theorem dX11_digest_122 : decode cX11_digest 122 = .ok (.aload_n 0, 1) := by decide +kernel
theorem dX11_digest_123 : decode cX11_digest 123 = .ok (.invokevirtual 137, 3) := by decide +kernel
theorem dX11_digest_126 : decode cX11_digest 126 = .ok (.ifCond .eq 9, 3) := by decide +kernel
theorem dX11_digest_129 : decode cX11_digest 129 = .ok (.aload_n 0, 1) := by decide +kernel
theorem dX11_digest_130 : decode cX11_digest 130 = .ok (.lload_n 1, 1) := by decide +kernel
theorem dX11_digest_131 : decode cX11_digest 131 = .ok (.invokevirtual 257, 3) := by decide +kernel
theorem dX11_digest_134 : decode cX11_digest 134 = .ok (.lstore_n 1, 1) := by decide +kernel
theorem dX11_digest_135 : decode cX11_digest 135 = .ok (.lload_n 1, 1) := by decide +kernel
theorem dX11_digest_136 : decode cX11_digest 136 = .ok (.aload_n 0, 1) := by decide +kernel
theorem dX11_digest_137 : decode cX11_digest 137 = .ok (.invokevirtual 261, 3) := by decide +kernel
theorem dX11_digest_140 : decode cX11_digest 140 = .ok (.i2l, 1) := by decide +kernel
theorem dX11_digest_141 : decode cX11_digest 141 = .ok (.invokestatic 250, 3) := by decide +kernel
theorem dX11_digest_144 : decode cX11_digest 144 = .ok (.lstore_n 1, 1) := by decide +kernel
theorem dX11_digest_145 : decode cX11_digest 145 = .ok (.lload_n 1, 1) := by decide +kernel
theorem dX11_digest_146 : decode cX11_digest 146 = .ok (.aload_n 0, 1) := by decide +kernel
theorem dX11_digest_147 : decode cX11_digest 147 = .ok (.invokevirtual 264, 3) := by decide +kernel
theorem dX11_digest_150 : decode cX11_digest 150 = .ok (.i2l, 1) := by decide +kernel
theorem dX11_digest_151 : decode cX11_digest 151 = .ok (.invokestatic 250, 3) := by decide +kernel
theorem dX11_digest_154 : decode cX11_digest 154 = .ok (.lstore_n 1, 1) := by decide +kernel
theorem dX11_digest_155 : decode cX11_digest 155 = .ok (.iconst 0, 1) := by decide +kernel
theorem dX11_digest_156 : decode cX11_digest 156 = .ok (.istore_n 3, 1) := by decide +kernel
theorem dX11_digest_157 : decode cX11_digest 157 = .ok (.iload_n 3, 1) := by decide +kernel
theorem dX11_digest_158 : decode cX11_digest 158 = .ok (.aload_n 0, 1) := by decide +kernel
theorem dX11_digest_159 : decode cX11_digest 159 = .ok (.getfield 34, 3) := by decide +kernel
theorem dX11_digest_162 : decode cX11_digest 162 = .ok (.getfield 65, 3) := by decide +kernel
theorem dX11_digest_165 : decode cX11_digest 165 = .ok (.if_icmp .ge 24, 3) := by decide +kernel
theorem dX11_digest_168 : decode cX11_digest 168 = .ok (.lload_n 1, 1) := by decide +kernel
theorem dX11_digest_169 : decode cX11_digest 169 = .ok (.aload_n 0, 1) := by decide +kernel
theorem dX11_digest_170 : decode cX11_digest 170 = .ok (.getfield 34, 3) := by decide +kernel
theorem dX11_digest_173 : decode cX11_digest 173 = .ok (.getfield 267, 3) := by decide +kernel
theorem dX11_digest_176 : decode cX11_digest 176 = .ok (.iload_n 3, 1) := by decide +kernel
theorem dX11_digest_177 : decode cX11_digest 177 = .ok (.iaload, 1) := by decide +kernel
theorem dX11_digest_178 : decode cX11_digest 178 = .ok (.i2l, 1) := by decide +kernel
theorem dX11_digest_179 : decode cX11_digest 179 = .ok (.invokestatic 250, 3) := by decide +kernel
theorem dX11_digest_182 : decode cX11_digest 182 = .ok (.lstore_n 1, 1) := by decide +kernel
theorem dX11_digest_183 : decode cX11_digest 183 = .ok (.iinc 3 1, 3) := by decide +kernel
theorem dX11_digest_186 : decode cX11_digest 186 = .ok (.goto (-29), 3) := by decide +kernel
theorem dX11_digest_189 : decode cX11_digest 189 = .ok (.iconst 0, 1) := by decide +kernel
theorem dX11_digest_190 : decode cX11_digest 190 = .ok (.istore_n 3, 1) := by decide +kernel
theorem dX11_digest_191 : decode cX11_digest 191 = .ok (.iload_n 3, 1) := by decide +kernel
theorem dX11_digest_192 : decode cX11_digest 192 = .ok (.bipush 10, 2) := by decide +kernel
theorem dX11_digest_194 : decode cX11_digest 194 = .ok (.if_icmp .ge 20, 3) := by decide +kernel
theorem dX11_digest_197 : decode cX11_digest 197 = .ok (.lload_n 1, 1) := by decide +kernel
theorem dX11_digest_198 : decode cX11_digest 198 = .ok (.aload_n 0, 1) := by decide +kernel
theorem dX11_digest_199 : decode cX11_digest 199 = .ok (.iload_n 3, 1) := by decide +kernel
theorem dX11_digest_200 : decode cX11_digest 200 = .ok (.invokevirtual 270, 3) := by decide +kernel
theorem dX11_digest_203 : decode cX11_digest 203 = .ok (.i2l, 1) := by decide +kernel
theorem dX11_digest_204 : decode cX11_digest 204 = .ok (.invokestatic 250, 3) := by decide +kernel
theorem dX11_digest_207 : decode cX11_digest 207 = .ok (.lstore_n 1, 1) := by decide +kernel
theorem dX11_digest_208 : decode cX11_digest 208 = .ok (.iinc 3 1, 3) := by decide +kernel
theorem dX11_digest_211 : decode cX11_digest 211 = .ok (.goto (-20), 3) := by decide +kernel
theorem dX11_digest_214 : decode cX11_digest 214 = .ok (.lload_n 1, 1) := by decide +kernel
theorem dX11_digest_215 : decode cX11_digest 215 = .ok (.lreturn, 1) := by decide +kernel
set_option maxRecDepth 20000 in
theorem ggX11_mixedShallBe_X2_leastLed : GoodIn wsX11_mixedShallBe wsX2_leastLed := goodIn_r _ [10, 11, 12, 13, 14, 15, 16, 17, 18, 9, 19, 20, 21, 22, 23, 24, 155, 156, 157, 158, 159] (by decide +kernel) (by decide +kernel)
set_option maxRecDepth 20000 in
theorem gX11_mixedShallBe_X2_leastLed : GoodIn wsX11_mixedShallBe (wsV RX11 187 RX2 yX2_leastLed wsX2_leastLed) := goodIn_app (goodIn_of _ (by decide +kernel)) ggX11_mixedShallBe_X2_leastLed
set_option maxRecDepth 20000 in
theorem ggX11_mixedShallBe_X11_mixed : GoodIn wsX11_mixedShallBe wsX11_mixed := goodIn_r _ [28, 29] (by decide +kernel) (by decide +kernel)
set_option maxRecDepth 20000 in
theorem gX11_mixedShallBe_X11_mixed : GoodIn wsX11_mixedShallBe (va_wsS RX11 250 yX11_mixed wsX11_mixed) := goodIn_app (goodIn_of _ (by decide +kernel)) ggX11_mixedShallBe_X11_mixed
set_option maxRecDepth 20000 in
theorem ggX11_mixedShallBe_X5_findOrder : GoodIn wsX11_mixedShallBe wsX5_findOrder := goodIn_r _ [34, 35, 36, 37, 38, 39, 40, 41, 42, 43, 44, 33, 45, 46, 47, 48, 9, 49, 11, 50, 51, 20, 52, 53, 54, 55, 56, 57, 58, 59, 60, 61, 62, 63, 64, 65, 66, 67, 68, 69, 70, 71, 72, 73, 74, 75, 76, 77, 78, 79, 80, 81, 82, 83, 84, 85, 86, 87, 13, 14, 15, 88, 89, 90, 91, 92, 93, 94, 95, 96, 97, 98, 99, 100, 101, 102, 103, 104, 105, 106, 107, 108, 109, 110, 111, 112, 113, 21, 22, 23, 24, 114, 115, 116, 117, 118, 119, 120, 121, 149, 150, 151, 152, 153, 154, 155, 156, 157, 158, 159] (by decide +kernel) (by decide +kernel)
set_option maxRecDepth 20000 in
theorem gX11_mixedShallBe_X5_findOrder : GoodIn wsX11_mixedShallBe (wsV RX11 199 RX5 yX5_findOrder wsX5_findOrder) := goodIn_app (goodIn_of _ (by decide +kernel)) ggX11_mixedShallBe_X5_findOrder
set_option maxRecDepth 20000 in
theorem ggX11_mixedShallBe_X5_bestAt : GoodIn wsX11_mixedShallBe wsX5_bestAt := goodIn_r _ [125, 56, 37, 149, 150, 151, 152, 153, 154] (by decide +kernel) (by decide +kernel)
set_option maxRecDepth 20000 in
theorem gX11_mixedShallBe_X5_bestAt : GoodIn wsX11_mixedShallBe (wsV RX11 203 RX5 yX5_bestAt wsX5_bestAt) := goodIn_app (goodIn_of _ (by decide +kernel)) ggX11_mixedShallBe_X5_bestAt
set_option maxRecDepth 20000 in
theorem ggX11_mixedShallBe_X5_highestRate : GoodIn wsX11_mixedShallBe wsX5_highestRate := goodIn_r _ [129, 130, 42, 43, 44, 33, 45, 36, 46, 47, 48, 9, 49, 11, 50, 51, 20, 52, 53, 54, 55, 56, 57, 58, 59, 60, 61, 62, 63, 64, 65, 66, 67, 68, 69, 70, 71, 72, 73, 74, 75, 76, 77, 78, 79, 80, 81, 82, 83, 84, 85, 86, 87, 13, 14, 15, 88, 89, 90, 91, 92, 93, 94, 95, 96, 97, 98, 99, 100, 101, 102, 103, 104, 105, 106, 107, 108, 109, 131, 132, 133, 134, 135, 22, 23, 24, 155, 156, 157, 158, 159, 149, 150, 151, 152, 153, 154] (by decide +kernel) (by decide +kernel)
set_option maxRecDepth 20000 in
theorem gX11_mixedShallBe_X5_highestRate : GoodIn wsX11_mixedShallBe (wsV RX11 209 RX5 yX5_highestRate wsX5_highestRate) := goodIn_app (goodIn_of _ (by decide +kernel)) ggX11_mixedShallBe_X5_highestRate
theorem dX11_mixedShallBe_0 : decode cX11_mixedShallBe 0 = .ok (.lload_n 1, 1) := by decide +kernel
theorem dX11_mixedShallBe_1 : decode cX11_mixedShallBe 1 = .ok (.aload_n 0, 1) := by decide +kernel
theorem dX11_mixedShallBe_2 : decode cX11_mixedShallBe 2 = .ok (.getfield 43, 3) := by decide +kernel
theorem dX11_mixedShallBe_5 : decode cX11_mixedShallBe 5 = .ok (.getfield 97, 3) := by decide +kernel
theorem dX11_mixedShallBe_8 : decode cX11_mixedShallBe 8 = .ok (.invokevirtual 187, 3) := by decide +kernel
theorem dX11_mixedShallBe_11 : decode cX11_mixedShallBe 11 = .ok (.i2l, 1) := by decide +kernel
theorem dX11_mixedShallBe_12 : decode cX11_mixedShallBe 12 = .ok (.invokestatic 250, 3) := by decide +kernel
theorem dX11_mixedShallBe_15 : decode cX11_mixedShallBe 15 = .ok (.lstore_n 3, 1) := by decide +kernel
theorem dX11_mixedShallBe_16 : decode cX11_mixedShallBe 16 = .ok (.aload_n 0, 1) := by decide +kernel
theorem dX11_mixedShallBe_17 : decode cX11_mixedShallBe 17 = .ok (.getfield 43, 3) := by decide +kernel
theorem dX11_mixedShallBe_20 : decode cX11_mixedShallBe 20 = .ok (.getfield 190, 3) := by decide +kernel
theorem dX11_mixedShallBe_23 : decode cX11_mixedShallBe 23 = .ok (.aload_n 0, 1) := by decide +kernel
theorem dX11_mixedShallBe_24 : decode cX11_mixedShallBe 24 = .ok (.getfield 43, 3) := by decide +kernel
theorem dX11_mixedShallBe_27 : decode cX11_mixedShallBe 27 = .ok (.getfield 97, 3) := by decide +kernel
theorem dX11_mixedShallBe_30 : decode cX11_mixedShallBe 30 = .ok (.aload_n 0, 1) := by decide +kernel
theorem dX11_mixedShallBe_31 : decode cX11_mixedShallBe 31 = .ok (.getfield 53, 3) := by decide +kernel
theorem dX11_mixedShallBe_34 : decode cX11_mixedShallBe 34 = .ok (.invokevirtual 199, 3) := by decide +kernel
theorem dX11_mixedShallBe_37 : decode cX11_mixedShallBe 37 = .ok (.lload_n 3, 1) := by decide +kernel
theorem dX11_mixedShallBe_38 : decode cX11_mixedShallBe 38 = .ok (.aload_n 0, 1) := by decide +kernel
theorem dX11_mixedShallBe_39 : decode cX11_mixedShallBe 39 = .ok (.getfield 43, 3) := by decide +kernel
theorem dX11_mixedShallBe_42 : decode cX11_mixedShallBe 42 = .ok (.getfield 190, 3) := by decide +kernel
theorem dX11_mixedShallBe_45 : decode cX11_mixedShallBe 45 = .ok (.getfield 206, 3) := by decide +kernel
theorem dX11_mixedShallBe_48 : decode cX11_mixedShallBe 48 = .ok (.i2l, 1) := by decide +kernel
theorem dX11_mixedShallBe_49 : decode cX11_mixedShallBe 49 = .ok (.invokestatic 250, 3) := by decide +kernel
theorem dX11_mixedShallBe_52 : decode cX11_mixedShallBe 52 = .ok (.lstore_n 3, 1) := by decide +kernel
theorem dX11_mixedShallBe_53 : decode cX11_mixedShallBe 53 = .ok (.iconst 0, 1) := by decide +kernel
theorem dX11_mixedShallBe_54 : decode cX11_mixedShallBe 54 = .ok (.istore 5, 2) := by decide +kernel
theorem dX11_mixedShallBe_56 : decode cX11_mixedShallBe 56 = .ok (.iload 5, 2) := by decide +kernel
theorem dX11_mixedShallBe_58 : decode cX11_mixedShallBe 58 = .ok (.iconst 4, 1) := by decide +kernel
theorem dX11_mixedShallBe_59 : decode cX11_mixedShallBe 59 = .ok (.if_icmp .ge 27, 3) := by decide +kernel
theorem dX11_mixedShallBe_62 : decode cX11_mixedShallBe 62 = .ok (.lload_n 3, 1) := by decide +kernel
theorem dX11_mixedShallBe_63 : decode cX11_mixedShallBe 63 = .ok (.aload_n 0, 1) := by decide +kernel
theorem dX11_mixedShallBe_64 : decode cX11_mixedShallBe 64 = .ok (.getfield 43, 3) := by decide +kernel
theorem dX11_mixedShallBe_67 : decode cX11_mixedShallBe 67 = .ok (.getfield 190, 3) := by decide +kernel
theorem dX11_mixedShallBe_70 : decode cX11_mixedShallBe 70 = .ok (.iload 5, 2) := by decide +kernel
theorem dX11_mixedShallBe_72 : decode cX11_mixedShallBe 72 = .ok (.invokevirtual 203, 3) := by decide +kernel
theorem dX11_mixedShallBe_75 : decode cX11_mixedShallBe 75 = .ok (.i2l, 1) := by decide +kernel
theorem dX11_mixedShallBe_76 : decode cX11_mixedShallBe 76 = .ok (.invokestatic 250, 3) := by decide +kernel
theorem dX11_mixedShallBe_79 : decode cX11_mixedShallBe 79 = .ok (.lstore_n 3, 1) := by decide +kernel
theorem dX11_mixedShallBe_80 : decode cX11_mixedShallBe 80 = .ok (.iinc 5 1, 3) := by decide +kernel
theorem dX11_mixedShallBe_83 : decode cX11_mixedShallBe 83 = .ok (.goto (-27), 3) := by decide +kernel
theorem dX11_mixedShallBe_86 : decode cX11_mixedShallBe 86 = .ok (.lload_n 3, 1) := by decide +kernel
theorem dX11_mixedShallBe_87 : decode cX11_mixedShallBe 87 = .ok (.aload_n 0, 1) := by decide +kernel
theorem dX11_mixedShallBe_88 : decode cX11_mixedShallBe 88 = .ok (.getfield 43, 3) := by decide +kernel
theorem dX11_mixedShallBe_91 : decode cX11_mixedShallBe 91 = .ok (.getfield 190, 3) := by decide +kernel
theorem dX11_mixedShallBe_94 : decode cX11_mixedShallBe 94 = .ok (.aload_n 0, 1) := by decide +kernel
theorem dX11_mixedShallBe_95 : decode cX11_mixedShallBe 95 = .ok (.getfield 43, 3) := by decide +kernel
theorem dX11_mixedShallBe_98 : decode cX11_mixedShallBe 98 = .ok (.getfield 97, 3) := by decide +kernel
theorem dX11_mixedShallBe_101 : decode cX11_mixedShallBe 101 = .ok (.aload_n 0, 1) := by decide +kernel
theorem dX11_mixedShallBe_102 : decode cX11_mixedShallBe 102 = .ok (.getfield 53, 3) := by decide +kernel
theorem dX11_mixedShallBe_105 : decode cX11_mixedShallBe 105 = .ok (.invokevirtual 209, 3) := by decide +kernel
theorem dX11_mixedShallBe_108 : decode cX11_mixedShallBe 108 = .ok (.i2l, 1) := by decide +kernel
theorem dX11_mixedShallBe_109 : decode cX11_mixedShallBe 109 = .ok (.invokestatic 250, 3) := by decide +kernel
theorem dX11_mixedShallBe_112 : decode cX11_mixedShallBe 112 = .ok (.lreturn, 1) := by decide +kernel
theorem dX11_mixed_0 : decode cX11_mixed 0 = .ok (.ldc2_w 273, 3) := by decide +kernel
theorem dX11_mixed_3 : decode cX11_mixed 3 = .ok (.lload_n 0, 1) := by decide +kernel
theorem dX11_mixed_4 : decode cX11_mixed 4 = .ok (.lmul, 1) := by decide +kernel
theorem dX11_mixed_5 : decode cX11_mixed 5 = .ok (.lload_n 2, 1) := by decide +kernel
theorem dX11_mixed_6 : decode cX11_mixed 6 = .ok (.ladd, 1) := by decide +kernel
theorem dX11_mixed_7 : decode cX11_mixed 7 = .ok (.lreturn, 1) := by decide +kernel
theorem dX11_hasHills_0 : decode cX11_hasHills 0 = .ok (.aload_n 0, 1) := by decide +kernel
theorem dX11_hasHills_1 : decode cX11_hasHills 1 = .ok (.getfield 43, 3) := by decide +kernel
theorem dX11_hasHills_4 : decode cX11_hasHills 4 = .ok (.getfield 97, 3) := by decide +kernel
theorem dX11_hasHills_7 : decode cX11_hasHills 7 = .ok (.getfield 241, 3) := by decide +kernel
theorem dX11_hasHills_10 : decode cX11_hasHills 10 = .ok (.ifCond .le 7, 3) := by decide +kernel
theorem dX11_hasHills_13 : decode cX11_hasHills 13 = .ok (.iconst 1, 1) := by decide +kernel
theorem dX11_hasHills_14 : decode cX11_hasHills 14 = .ok (.goto 4, 3) := by decide +kernel
theorem dX11_hasHills_17 : decode cX11_hasHills 17 = .ok (.iconst 0, 1) := by decide +kernel
theorem dX11_hasHills_18 : decode cX11_hasHills 18 = .ok (.ireturn, 1) := by decide +kernel
theorem dX11_kindAt_0 : decode cX11_kindAt 0 = .ok (.iload_n 1, 1) := by decide +kernel
theorem dX11_kindAt_1 : decode cX11_kindAt 1 = .ok (.ifCond .lt 21, 3) := by decide +kernel
theorem dX11_kindAt_4 : decode cX11_kindAt 4 = .ok (.iload_n 1, 1) := by decide +kernel
theorem dX11_kindAt_5 : decode cX11_kindAt 5 = .ok (.aload_n 0, 1) := by decide +kernel
theorem dX11_kindAt_6 : decode cX11_kindAt 6 = .ok (.getfield 22, 3) := by decide +kernel
theorem dX11_kindAt_9 : decode cX11_kindAt 9 = .ok (.arraylength, 1) := by decide +kernel
theorem dX11_kindAt_10 : decode cX11_kindAt 10 = .ok (.if_icmp .ge 12, 3) := by decide +kernel
theorem dX11_kindAt_13 : decode cX11_kindAt 13 = .ok (.aload_n 0, 1) := by decide +kernel
theorem dX11_kindAt_14 : decode cX11_kindAt 14 = .ok (.getfield 22, 3) := by decide +kernel
theorem dX11_kindAt_17 : decode cX11_kindAt 17 = .ok (.iload_n 1, 1) := by decide +kernel
theorem dX11_kindAt_18 : decode cX11_kindAt 18 = .ok (.aaload, 1) := by decide +kernel
theorem dX11_kindAt_19 : decode cX11_kindAt 19 = .ok (.goto 9, 3) := by decide +kernel
theorem dX11_kindAt_22 : decode cX11_kindAt 22 = .ok (.aload_n 0, 1) := by decide +kernel
theorem dX11_kindAt_23 : decode cX11_kindAt 23 = .ok (.getfield 22, 3) := by decide +kernel
theorem dX11_kindAt_26 : decode cX11_kindAt 26 = .ok (.iconst 0, 1) := by decide +kernel
theorem dX11_kindAt_27 : decode cX11_kindAt 27 = .ok (.aaload, 1) := by decide +kernel
theorem dX11_kindAt_28 : decode cX11_kindAt 28 = .ok (.areturn, 1) := by decide +kernel
theorem dX11_isRate_0 : decode cX11_isRate 0 = .ok (.iload_n 0, 1) := by decide +kernel
theorem dX11_isRate_1 : decode cX11_isRate 1 = .ok (.iconst 1, 1) := by decide +kernel
theorem dX11_isRate_2 : decode cX11_isRate 2 = .ok (.if_icmp .lt 13, 3) := by decide +kernel
theorem dX11_isRate_5 : decode cX11_isRate 5 = .ok (.iload_n 0, 1) := by decide +kernel
theorem dX11_isRate_6 : decode cX11_isRate 6 = .ok (.bipush 9, 2) := by decide +kernel
theorem dX11_isRate_8 : decode cX11_isRate 8 = .ok (.if_icmp .gt 7, 3) := by decide +kernel
theorem dX11_isRate_11 : decode cX11_isRate 11 = .ok (.iconst 1, 1) := by decide +kernel
theorem dX11_isRate_12 : decode cX11_isRate 12 = .ok (.goto 4, 3) := by decide +kernel
theorem dX11_isRate_15 : decode cX11_isRate 15 = .ok (.iconst 0, 1) := by decide +kernel
theorem dX11_isRate_16 : decode cX11_isRate 16 = .ok (.ireturn, 1) := by decide +kernel
theorem dX11_isOfKind_0 : decode cX11_isOfKind 0 = .ok (.iload_n 1, 1) := by decide +kernel
theorem dX11_isOfKind_1 : decode cX11_isOfKind 1 = .ok (.tableswitch 57 0 4 #[35, 37, 42, 47, 52], 35) := by decide +kernel
theorem dX11_isOfKind_36 : decode cX11_isOfKind 36 = .ok (.iconst 1, 1) := by decide +kernel
theorem dX11_isOfKind_37 : decode cX11_isOfKind 37 = .ok (.ireturn, 1) := by decide +kernel
theorem dX11_isOfKind_38 : decode cX11_isOfKind 38 = .ok (.aload_n 0, 1) := by decide +kernel
theorem dX11_isOfKind_39 : decode cX11_isOfKind 39 = .ok (.instanceof 10, 3) := by decide +kernel
theorem dX11_isOfKind_42 : decode cX11_isOfKind 42 = .ok (.ireturn, 1) := by decide +kernel
theorem dX11_isOfKind_43 : decode cX11_isOfKind 43 = .ok (.aload_n 0, 1) := by decide +kernel
theorem dX11_isOfKind_44 : decode cX11_isOfKind 44 = .ok (.instanceof 13, 3) := by decide +kernel
theorem dX11_isOfKind_47 : decode cX11_isOfKind 47 = .ok (.ireturn, 1) := by decide +kernel
theorem dX11_isOfKind_48 : decode cX11_isOfKind 48 = .ok (.aload_n 0, 1) := by decide +kernel
theorem dX11_isOfKind_49 : decode cX11_isOfKind 49 = .ok (.instanceof 16, 3) := by decide +kernel
theorem dX11_isOfKind_52 : decode cX11_isOfKind 52 = .ok (.ireturn, 1) := by decide +kernel
theorem dX11_isOfKind_53 : decode cX11_isOfKind 53 = .ok (.aload_n 0, 1) := by decide +kernel
theorem dX11_isOfKind_54 : decode cX11_isOfKind 54 = .ok (.instanceof 19, 3) := by decide +kernel
theorem dX11_isOfKind_57 : decode cX11_isOfKind 57 = .ok (.ireturn, 1) := by decide +kernel
theorem dX11_isOfKind_58 : decode cX11_isOfKind 58 = .ok (.iconst 0, 1) := by decide +kernel
theorem dX11_isOfKind_59 : decode cX11_isOfKind 59 = .ok (.ireturn, 1) := by decide +kernel
theorem dX12_init_0 : decode cX12_init 0 = .ok (.aload_n 0, 1) := by decide +kernel
theorem dX12_init_1 : decode cX12_init 1 = .ok (.invokespecial 1, 3) := by decide +kernel
theorem dX12_init_4 : decode cX12_init 4 = .ok (.aload_n 0, 1) := by decide +kernel
theorem dX12_init_5 : decode cX12_init 5 = .ok (.bipush 16, 2) := by decide +kernel
theorem dX12_init_7 : decode cX12_init 7 = .ok (.newarray .int, 2) := by decide +kernel
theorem dX12_init_9 : decode cX12_init 9 = .ok (.putfield 7, 3) := by decide +kernel
theorem dX12_init_12 : decode cX12_init 12 = .ok (.aload_n 0, 1) := by decide +kernel
theorem dX12_init_13 : decode cX12_init 13 = .ok (.bipush 8, 2) := by decide +kernel
theorem dX12_init_15 : decode cX12_init 15 = .ok (.newarray .int, 2) := by decide +kernel
theorem dX12_init_17 : decode cX12_init 17 = .ok (.putfield 13, 3) := by decide +kernel
theorem dX12_init_20 : decode cX12_init 20 = .ok (.aload_n 0, 1) := by decide +kernel
theorem dX12_init_21 : decode cX12_init 21 = .ok (.iconst 4, 1) := by decide +kernel
theorem dX12_init_22 : decode cX12_init 22 = .ok (.newarray .int, 2) := by decide +kernel
theorem dX12_init_24 : decode cX12_init 24 = .ok (.putfield 16, 3) := by decide +kernel
theorem dX12_init_27 : decode cX12_init 27 = .ok (.aload_n 0, 1) := by decide +kernel
theorem dX12_init_28 : decode cX12_init 28 = .ok (.iconst 4, 1) := by decide +kernel
theorem dX12_init_29 : decode cX12_init 29 = .ok (.newarray .int, 2) := by decide +kernel
theorem dX12_init_31 : decode cX12_init 31 = .ok (.putfield 19, 3) := by decide +kernel
theorem dX12_init_34 : decode cX12_init 34 = .ok (.aload_n 0, 1) := by decide +kernel
theorem dX12_init_35 : decode cX12_init 35 = .ok (.bipush 16, 2) := by decide +kernel
theorem dX12_init_37 : decode cX12_init 37 = .ok (.newarray .int, 2) := by decide +kernel
theorem dX12_init_39 : decode cX12_init 39 = .ok (.putfield 22, 3) := by decide +kernel
theorem dX12_init_42 : decode cX12_init 42 = .ok (.aload_n 0, 1) := by decide +kernel
theorem dX12_init_43 : decode cX12_init 43 = .ok (.bipush 48, 2) := by decide +kernel
theorem dX12_init_45 : decode cX12_init 45 = .ok (.newarray .int, 2) := by decide +kernel
theorem dX12_init_47 : decode cX12_init 47 = .ok (.putfield 25, 3) := by decide +kernel
theorem dX12_init_50 : decode cX12_init 50 = .ok (.aload_n 0, 1) := by decide +kernel
theorem dX12_init_51 : decode cX12_init 51 = .ok (.bipush 8, 2) := by decide +kernel
theorem dX12_init_53 : decode cX12_init 53 = .ok (.newarray .int, 2) := by decide +kernel
theorem dX12_init_55 : decode cX12_init 55 = .ok (.putfield 28, 3) := by decide +kernel
theorem dX12_init_58 : decode cX12_init 58 = .ok (.aload_n 0, 1) := by decide +kernel
theorem dX12_init_59 : decode cX12_init 59 = .ok (.iconst 4, 1) := by decide +kernel
theorem dX12_init_60 : decode cX12_init 60 = .ok (.newarray .int, 2) := by decide +kernel
theorem dX12_init_62 : decode cX12_init 62 = .ok (.putfield 31, 3) := by decide +kernel
theorem dX12_init_65 : decode cX12_init 65 = .ok (.aload_n 0, 1) := by decide +kernel
theorem dX12_init_66 : decode cX12_init 66 = .ok (.bipush 16, 2) := by decide +kernel
theorem dX12_init_68 : decode cX12_init 68 = .ok (.newarray .int, 2) := by decide +kernel
theorem dX12_init_70 : decode cX12_init 70 = .ok (.putfield 34, 3) := by decide +kernel
theorem dX12_init_73 : decode cX12_init 73 = .ok (.aload_n 0, 1) := by decide +kernel
theorem dX12_init_74 : decode cX12_init 74 = .ok (.iconst 4, 1) := by decide +kernel
theorem dX12_init_75 : decode cX12_init 75 = .ok (.newarray .int, 2) := by decide +kernel
theorem dX12_init_77 : decode cX12_init 77 = .ok (.putfield 37, 3) := by decide +kernel
theorem dX12_init_80 : decode cX12_init 80 = .ok (.aload_n 0, 1) := by decide +kernel
theorem dX12_init_81 : decode cX12_init 81 = .ok (.iconst 4, 1) := by decide +kernel
theorem dX12_init_82 : decode cX12_init 82 = .ok (.newarray .int, 2) := by decide +kernel
theorem dX12_init_84 : decode cX12_init 84 = .ok (.putfield 40, 3) := by decide +kernel
theorem dX12_init_87 : decode cX12_init 87 = .ok (.aload_n 0, 1) := by decide +kernel
theorem dX12_init_88 : decode cX12_init 88 = .ok (.iconst 4, 1) := by decide +kernel
theorem dX12_init_89 : decode cX12_init 89 = .ok (.newarray .int, 2) := by decide +kernel
theorem dX12_init_91 : decode cX12_init 91 = .ok (.putfield 43, 3) := by decide +kernel
theorem dX12_init_94 : decode cX12_init 94 = .ok (.aload_n 0, 1) := by decide +kernel
theorem dX12_init_95 : decode cX12_init 95 = .ok (.bipush 12, 2) := by decide +kernel
theorem dX12_init_97 : decode cX12_init 97 = .ok (.newarray .int, 2) := by decide +kernel
theorem dX12_init_99 : decode cX12_init 99 = .ok (.putfield 46, 3) := by decide +kernel
theorem dX12_init_102 : decode cX12_init 102 = .ok (.aload_n 0, 1) := by decide +kernel
theorem dX12_init_103 : decode cX12_init 103 = .ok (.bipush 21, 2) := by decide +kernel
theorem dX12_init_105 : decode cX12_init 105 = .ok (.newarray .int, 2) := by decide +kernel
theorem dX12_init_107 : decode cX12_init 107 = .ok (.putfield 49, 3) := by decide +kernel
theorem dX12_init_110 : decode cX12_init 110 = .ok (.aload_n 0, 1) := by decide +kernel
theorem dX12_init_111 : decode cX12_init 111 = .ok (.iconst 4, 1) := by decide +kernel
theorem dX12_init_112 : decode cX12_init 112 = .ok (.newarray .int, 2) := by decide +kernel
theorem dX12_init_114 : decode cX12_init 114 = .ok (.putfield 52, 3) := by decide +kernel
theorem dX12_init_117 : decode cX12_init 117 = .ok (.aload_n 0, 1) := by decide +kernel
theorem dX12_init_118 : decode cX12_init 118 = .ok (.bipush 16, 2) := by decide +kernel
theorem dX12_init_120 : decode cX12_init 120 = .ok (.newarray .int, 2) := by decide +kernel
theorem dX12_init_122 : decode cX12_init 122 = .ok (.putfield 55, 3) := by decide +kernel
theorem dX12_init_125 : decode cX12_init 125 = .ok (.aload_n 0, 1) := by decide +kernel
theorem dX12_init_126 : decode cX12_init 126 = .ok (.bipush 48, 2) := by decide +kernel
theorem dX12_init_128 : decode cX12_init 128 = .ok (.newarray .int, 2) := by decide +kernel
theorem dX12_init_130 : decode cX12_init 130 = .ok (.putfield 58, 3) := by decide +kernel
theorem dX12_init_133 : decode cX12_init 133 = .ok (.aload_n 0, 1) := by decide +kernel
theorem dX12_init_134 : decode cX12_init 134 = .ok (.bipush 8, 2) := by decide +kernel
theorem dX12_init_136 : decode cX12_init 136 = .ok (.newarray .int, 2) := by decide +kernel
theorem dX12_init_138 : decode cX12_init 138 = .ok (.putfield 61, 3) := by decide +kernel
theorem dX12_init_141 : decode cX12_init 141 = .ok (.aload_n 0, 1) := by decide +kernel
theorem dX12_init_142 : decode cX12_init 142 = .ok (.bipush 12, 2) := by decide +kernel
theorem dX12_init_144 : decode cX12_init 144 = .ok (.newarray .int, 2) := by decide +kernel
theorem dX12_init_146 : decode cX12_init 146 = .ok (.putfield 64, 3) := by decide +kernel
theorem dX12_init_149 : decode cX12_init 149 = .ok (.aload_n 0, 1) := by decide +kernel
theorem dX12_init_150 : decode cX12_init 150 = .ok (.iconst (-1), 1) := by decide +kernel
theorem dX12_init_151 : decode cX12_init 151 = .ok (.putfield 67, 3) := by decide +kernel
theorem dX12_init_154 : decode cX12_init 154 = .ok (.return_, 1) := by decide +kernel
theorem dX12_in_0 : decode cX12_in 0 = .ok (.lload_n 0, 1) := by decide +kernel
theorem dX12_in_1 : decode cX12_in 1 = .ok (.lload_n 2, 1) := by decide +kernel
theorem dX12_in_2 : decode cX12_in 2 = .ok (.lcmp, 1) := by decide +kernel
theorem dX12_in_3 : decode cX12_in 3 = .ok (.ifCond .lt 14, 3) := by decide +kernel
theorem dX12_in_6 : decode cX12_in 6 = .ok (.lload_n 0, 1) := by decide +kernel
theorem dX12_in_7 : decode cX12_in 7 = .ok (.lload 4, 2) := by decide +kernel
theorem dX12_in_9 : decode cX12_in 9 = .ok (.lcmp, 1) := by decide +kernel
theorem dX12_in_10 : decode cX12_in 10 = .ok (.ifCond .gt 7, 3) := by decide +kernel
theorem dX12_in_13 : decode cX12_in 13 = .ok (.iconst 1, 1) := by decide +kernel
theorem dX12_in_14 : decode cX12_in 14 = .ok (.goto 4, 3) := by decide +kernel
theorem dX12_in_17 : decode cX12_in 17 = .ok (.iconst 0, 1) := by decide +kernel
theorem dX12_in_18 : decode cX12_in 18 = .ok (.ireturn, 1) := by decide +kernel
theorem dX12_copy_0 : decode cX12_copy 0 = .ok (.iconst 0, 1) := by decide +kernel
theorem dX12_copy_1 : decode cX12_copy 1 = .ok (.istore_n 2, 1) := by decide +kernel
theorem dX12_copy_2 : decode cX12_copy 2 = .ok (.iload_n 2, 1) := by decide +kernel
theorem dX12_copy_3 : decode cX12_copy 3 = .ok (.aload_n 0, 1) := by decide +kernel
theorem dX12_copy_4 : decode cX12_copy 4 = .ok (.arraylength, 1) := by decide +kernel
theorem dX12_copy_5 : decode cX12_copy 5 = .ok (.if_icmp .ge 15, 3) := by decide +kernel
theorem dX12_copy_8 : decode cX12_copy 8 = .ok (.aload_n 1, 1) := by decide +kernel
theorem dX12_copy_9 : decode cX12_copy 9 = .ok (.iload_n 2, 1) := by decide +kernel
theorem dX12_copy_10 : decode cX12_copy 10 = .ok (.aload_n 0, 1) := by decide +kernel
theorem dX12_copy_11 : decode cX12_copy 11 = .ok (.iload_n 2, 1) := by decide +kernel
theorem dX12_copy_12 : decode cX12_copy 12 = .ok (.iaload, 1) := by decide +kernel
theorem dX12_copy_13 : decode cX12_copy 13 = .ok (.iastore, 1) := by decide +kernel
theorem dX12_copy_14 : decode cX12_copy 14 = .ok (.iinc 2 1, 3) := by decide +kernel
theorem dX12_copy_17 : decode cX12_copy 17 = .ok (.goto (-15), 3) := by decide +kernel
theorem dX12_copy_20 : decode cX12_copy 20 = .ok (.return_, 1) := by decide +kernel
set_option maxRecDepth 20000 in
theorem ggX12_letter_X12_in : GoodIn wsX12_letter wsX12_in := goodIn_r _ [7] (by decide +kernel) (by decide +kernel)
set_option maxRecDepth 20000 in
theorem gX12_letter_X12_in : GoodIn wsX12_letter (va_wsS RX12 73 yX12_in wsX12_in) := goodIn_app (goodIn_of _ (by decide +kernel)) ggX12_letter_X12_in
theorem dX12_letter_0 : decode cX12_letter 0 = .ok (.iload_n 1, 1) := by decide +kernel
theorem dX12_letter_1 : decode cX12_letter 1 = .ok (.i2l, 1) := by decide +kernel
theorem dX12_letter_2 : decode cX12_letter 2 = .ok (.lconst 1, 1) := by decide +kernel
theorem dX12_letter_3 : decode cX12_letter 3 = .ok (.ldc2_w 71, 3) := by decide +kernel
theorem dX12_letter_6 : decode cX12_letter 6 = .ok (.invokestatic 73, 3) := by decide +kernel
theorem dX12_letter_9 : decode cX12_letter 9 = .ok (.ifCond .ne 6, 3) := by decide +kernel
theorem dX12_letter_12 : decode cX12_letter 12 = .ok (.bipush (-102), 2) := by decide +kernel
theorem dX12_letter_14 : decode cX12_letter 14 = .ok (.ireturn, 1) := by decide +kernel
theorem dX12_letter_15 : decode cX12_letter 15 = .ok (.aload_n 0, 1) := by decide +kernel
theorem dX12_letter_16 : decode cX12_letter 16 = .ok (.getfield 77, 3) := by decide +kernel
theorem dX12_letter_19 : decode cX12_letter 19 = .ok (.bipush 16, 2) := by decide +kernel
theorem dX12_letter_21 : decode cX12_letter 21 = .ok (.if_icmp .ne 6, 3) := by decide +kernel
theorem dX12_letter_24 : decode cX12_letter 24 = .ok (.bipush (-104), 2) := by decide +kernel
theorem dX12_letter_26 : decode cX12_letter 26 = .ok (.ireturn, 1) := by decide +kernel
theorem dX12_letter_27 : decode cX12_letter 27 = .ok (.aload_n 0, 1) := by decide +kernel
theorem dX12_letter_28 : decode cX12_letter 28 = .ok (.getfield 7, 3) := by decide +kernel
theorem dX12_letter_31 : decode cX12_letter 31 = .ok (.aload_n 0, 1) := by decide +kernel
theorem dX12_letter_32 : decode cX12_letter 32 = .ok (.getfield 77, 3) := by decide +kernel
theorem dX12_letter_35 : decode cX12_letter 35 = .ok (.iload_n 1, 1) := by decide +kernel
theorem dX12_letter_36 : decode cX12_letter 36 = .ok (.iastore, 1) := by decide +kernel
theorem dX12_letter_37 : decode cX12_letter 37 = .ok (.aload_n 0, 1) := by decide +kernel
theorem dX12_letter_38 : decode cX12_letter 38 = .ok (.dup, 1) := by decide +kernel
theorem dX12_letter_39 : decode cX12_letter 39 = .ok (.getfield 77, 3) := by decide +kernel
theorem dX12_letter_42 : decode cX12_letter 42 = .ok (.iconst 1, 1) := by decide +kernel
theorem dX12_letter_43 : decode cX12_letter 43 = .ok (.iadd, 1) := by decide +kernel
theorem dX12_letter_44 : decode cX12_letter 44 = .ok (.putfield 77, 3) := by decide +kernel
theorem dX12_letter_47 : decode cX12_letter 47 = .ok (.aload_n 0, 1) := by decide +kernel
theorem dX12_letter_48 : decode cX12_letter 48 = .ok (.getfield 77, 3) := by decide +kernel
theorem dX12_letter_51 : decode cX12_letter 51 = .ok (.ireturn, 1) := by decide +kernel
theorem dX12_blank_0 : decode cX12_blank 0 = .ok (.aload_n 0, 1) := by decide +kernel
theorem dX12_blank_1 : decode cX12_blank 1 = .ok (.getfield 77, 3) := by decide +kernel
theorem dX12_blank_4 : decode cX12_blank 4 = .ok (.istore_n 1, 1) := by decide +kernel
theorem dX12_blank_5 : decode cX12_blank 5 = .ok (.aload_n 0, 1) := by decide +kernel
theorem dX12_blank_6 : decode cX12_blank 6 = .ok (.iconst 0, 1) := by decide +kernel
theorem dX12_blank_7 : decode cX12_blank 7 = .ok (.putfield 77, 3) := by decide +kernel
theorem dX12_blank_10 : decode cX12_blank 10 = .ok (.iload_n 1, 1) := by decide +kernel
theorem dX12_blank_11 : decode cX12_blank 11 = .ok (.ireturn, 1) := by decide +kernel
theorem dX12_kindBy_0 : decode cX12_kindBy 0 = .ok (.iload_n 0, 1) := by decide +kernel
theorem dX12_kindBy_1 : decode cX12_kindBy 1 = .ok (.bipush 99, 2) := by decide +kernel
theorem dX12_kindBy_3 : decode cX12_kindBy 3 = .ok (.if_icmp .ne 7, 3) := by decide +kernel
theorem dX12_kindBy_6 : decode cX12_kindBy 6 = .ok (.iconst 0, 1) := by decide +kernel
theorem dX12_kindBy_7 : decode cX12_kindBy 7 = .ok (.goto 44, 3) := by decide +kernel
theorem dX12_kindBy_10 : decode cX12_kindBy 10 = .ok (.iload_n 0, 1) := by decide +kernel
theorem dX12_kindBy_11 : decode cX12_kindBy 11 = .ok (.bipush 112, 2) := by decide +kernel
theorem dX12_kindBy_13 : decode cX12_kindBy 13 = .ok (.if_icmp .ne 7, 3) := by decide +kernel
theorem dX12_kindBy_16 : decode cX12_kindBy 16 = .ok (.iconst 1, 1) := by decide +kernel
theorem dX12_kindBy_17 : decode cX12_kindBy 17 = .ok (.goto 34, 3) := by decide +kernel
theorem dX12_kindBy_20 : decode cX12_kindBy 20 = .ok (.iload_n 0, 1) := by decide +kernel
theorem dX12_kindBy_21 : decode cX12_kindBy 21 = .ok (.bipush 111, 2) := by decide +kernel
theorem dX12_kindBy_23 : decode cX12_kindBy 23 = .ok (.if_icmp .ne 7, 3) := by decide +kernel
theorem dX12_kindBy_26 : decode cX12_kindBy 26 = .ok (.iconst 2, 1) := by decide +kernel
theorem dX12_kindBy_27 : decode cX12_kindBy 27 = .ok (.goto 24, 3) := by decide +kernel
theorem dX12_kindBy_30 : decode cX12_kindBy 30 = .ok (.iload_n 0, 1) := by decide +kernel
theorem dX12_kindBy_31 : decode cX12_kindBy 31 = .ok (.bipush 119, 2) := by decide +kernel
theorem dX12_kindBy_33 : decode cX12_kindBy 33 = .ok (.if_icmp .ne 7, 3) := by decide +kernel
theorem dX12_kindBy_36 : decode cX12_kindBy 36 = .ok (.iconst 3, 1) := by decide +kernel
theorem dX12_kindBy_37 : decode cX12_kindBy 37 = .ok (.goto 14, 3) := by decide +kernel
theorem dX12_kindBy_40 : decode cX12_kindBy 40 = .ok (.iload_n 0, 1) := by decide +kernel
theorem dX12_kindBy_41 : decode cX12_kindBy 41 = .ok (.bipush 107, 2) := by decide +kernel
theorem dX12_kindBy_43 : decode cX12_kindBy 43 = .ok (.if_icmp .ne 7, 3) := by decide +kernel
theorem dX12_kindBy_46 : decode cX12_kindBy 46 = .ok (.iconst 4, 1) := by decide +kernel
theorem dX12_kindBy_47 : decode cX12_kindBy 47 = .ok (.goto 4, 3) := by decide +kernel
theorem dX12_kindBy_50 : decode cX12_kindBy 50 = .ok (.iconst (-1), 1) := by decide +kernel
theorem dX12_kindBy_51 : decode cX12_kindBy 51 = .ok (.ireturn, 1) := by decide +kernel
set_option maxRecDepth 20000 in
theorem ggX12_go_X12_kindBy : GoodIn wsX12_go wsX12_kindBy := goodIn_r _ [10] (by decide +kernel) (by decide +kernel)
set_option maxRecDepth 20000 in
theorem gX12_go_X12_kindBy : GoodIn wsX12_go (va_wsS RX12 86 yX12_kindBy wsX12_kindBy) := goodIn_app (goodIn_of _ (by decide +kernel)) ggX12_go_X12_kindBy
set_option maxRecDepth 20000 in
theorem ggX12_go_X12_in : GoodIn wsX12_go wsX12_in := goodIn_r _ [13] (by decide +kernel) (by decide +kernel)
set_option maxRecDepth 20000 in
theorem gX12_go_X12_in : GoodIn wsX12_go (va_wsS RX12 73 yX12_in wsX12_in) := goodIn_app (goodIn_of _ (by decide +kernel)) ggX12_go_X12_in
theorem dX12_go_0 : decode cX12_go 0 = .ok (.iload_n 1, 1) := by decide +kernel
theorem dX12_go_1 : decode cX12_go 1 = .ok (.bipush 48, 2) := by decide +kernel
theorem dX12_go_3 : decode cX12_go 3 = .ok (.isub, 1) := by decide +kernel
theorem dX12_go_4 : decode cX12_go 4 = .ok (.istore_n 2, 1) := by decide +kernel
theorem dX12_go_5 : decode cX12_go 5 = .ok (.aload_n 0, 1) := by decide +kernel
theorem dX12_go_6 : decode cX12_go 6 = .ok (.getfield 80, 3) := by decide +kernel
theorem dX12_go_9 : decode cX12_go 9 = .ok (.istore_n 3, 1) := by decide +kernel
theorem dX12_go_10 : decode cX12_go 10 = .ok (.aload_n 0, 1) := by decide +kernel
theorem dX12_go_11 : decode cX12_go 11 = .ok (.dup, 1) := by decide +kernel
theorem dX12_go_12 : decode cX12_go 12 = .ok (.getfield 80, 3) := by decide +kernel
theorem dX12_go_15 : decode cX12_go 15 = .ok (.iconst 1, 1) := by decide +kernel
theorem dX12_go_16 : decode cX12_go 16 = .ok (.iadd, 1) := by decide +kernel
theorem dX12_go_17 : decode cX12_go 17 = .ok (.putfield 80, 3) := by decide +kernel
theorem dX12_go_20 : decode cX12_go 20 = .ok (.iload_n 3, 1) := by decide +kernel
theorem dX12_go_21 : decode cX12_go 21 = .ok (.tableswitch 166 0 3 #[31, 60, 94, 151], 31) := by decide +kernel
theorem dX12_go_52 : decode cX12_go 52 = .ok (.aload_n 0, 1) := by decide +kernel
theorem dX12_go_53 : decode cX12_go 53 = .ok (.getfield 13, 3) := by decide +kernel
theorem dX12_go_56 : decode cX12_go 56 = .ok (.iconst 2, 1) := by decide +kernel
theorem dX12_go_57 : decode cX12_go 57 = .ok (.aload_n 0, 1) := by decide +kernel
theorem dX12_go_58 : decode cX12_go 58 = .ok (.getfield 83, 3) := by decide +kernel
theorem dX12_go_61 : decode cX12_go 61 = .ok (.imul, 1) := by decide +kernel
theorem dX12_go_62 : decode cX12_go 62 = .ok (.iload_n 1, 1) := by decide +kernel
theorem dX12_go_63 : decode cX12_go 63 = .ok (.invokestatic 86, 3) := by decide +kernel
theorem dX12_go_66 : decode cX12_go 66 = .ok (.iastore, 1) := by decide +kernel
theorem dX12_go_67 : decode cX12_go 67 = .ok (.iload_n 1, 1) := by decide +kernel
theorem dX12_go_68 : decode cX12_go 68 = .ok (.invokestatic 86, 3) := by decide +kernel
theorem dX12_go_71 : decode cX12_go 71 = .ok (.iconst (-1), 1) := by decide +kernel
theorem dX12_go_72 : decode cX12_go 72 = .ok (.if_icmp .eq 7, 3) := by decide +kernel
theorem dX12_go_75 : decode cX12_go 75 = .ok (.iconst 1, 1) := by decide +kernel
theorem dX12_go_76 : decode cX12_go 76 = .ok (.goto 4, 3) := by decide +kernel
theorem dX12_go_79 : decode cX12_go 79 = .ok (.iconst 0, 1) := by decide +kernel
theorem dX12_go_80 : decode cX12_go 80 = .ok (.ireturn, 1) := by decide +kernel
theorem dX12_go_81 : decode cX12_go 81 = .ok (.aload_n 0, 1) := by decide +kernel
theorem dX12_go_82 : decode cX12_go 82 = .ok (.getfield 13, 3) := by decide +kernel
theorem dX12_go_85 : decode cX12_go 85 = .ok (.iconst 2, 1) := by decide +kernel
theorem dX12_go_86 : decode cX12_go 86 = .ok (.aload_n 0, 1) := by decide +kernel
theorem dX12_go_87 : decode cX12_go 87 = .ok (.getfield 83, 3) := by decide +kernel
theorem dX12_go_90 : decode cX12_go 90 = .ok (.imul, 1) := by decide +kernel
theorem dX12_go_91 : decode cX12_go 91 = .ok (.iconst 1, 1) := by decide +kernel
theorem dX12_go_92 : decode cX12_go 92 = .ok (.iadd, 1) := by decide +kernel
theorem dX12_go_93 : decode cX12_go 93 = .ok (.iload_n 2, 1) := by decide +kernel
theorem dX12_go_94 : decode cX12_go 94 = .ok (.iastore, 1) := by decide +kernel
theorem dX12_go_95 : decode cX12_go 95 = .ok (.aload_n 0, 1) := by decide +kernel
theorem dX12_go_96 : decode cX12_go 96 = .ok (.dup, 1) := by decide +kernel
theorem dX12_go_97 : decode cX12_go 97 = .ok (.getfield 83, 3) := by decide +kernel
theorem dX12_go_100 : decode cX12_go 100 = .ok (.iconst 1, 1) := by decide +kernel
theorem dX12_go_101 : decode cX12_go 101 = .ok (.iadd, 1) := by decide +kernel
theorem dX12_go_102 : decode cX12_go 102 = .ok (.putfield 83, 3) := by decide +kernel
theorem dX12_go_105 : decode cX12_go 105 = .ok (.iload_n 2, 1) := by decide +kernel
theorem dX12_go_106 : decode cX12_go 106 = .ok (.i2l, 1) := by decide +kernel
theorem dX12_go_107 : decode cX12_go 107 = .ok (.lconst 0, 1) := by decide +kernel
theorem dX12_go_108 : decode cX12_go 108 = .ok (.ldc2_w 90, 3) := by decide +kernel
theorem dX12_go_111 : decode cX12_go 111 = .ok (.invokestatic 73, 3) := by decide +kernel
theorem dX12_go_114 : decode cX12_go 114 = .ok (.ireturn, 1) := by decide +kernel
theorem dX12_go_115 : decode cX12_go 115 = .ok (.aload_n 0, 1) := by decide +kernel
theorem dX12_go_116 : decode cX12_go 116 = .ok (.iload_n 1, 1) := by decide +kernel
theorem dX12_go_117 : decode cX12_go 117 = .ok (.bipush 44, 2) := by decide +kernel
theorem dX12_go_119 : decode cX12_go 119 = .ok (.if_icmp .ne 7, 3) := by decide +kernel
theorem dX12_go_122 : decode cX12_go 122 = .ok (.iconst 0, 1) := by decide +kernel
theorem dX12_go_123 : decode cX12_go 123 = .ok (.goto 4, 3) := by decide +kernel
theorem dX12_go_126 : decode cX12_go 126 = .ok (.iconst 3, 1) := by decide +kernel
theorem dX12_go_127 : decode cX12_go 127 = .ok (.putfield 80, 3) := by decide +kernel
theorem dX12_go_130 : decode cX12_go 130 = .ok (.iload_n 1, 1) := by decide +kernel
theorem dX12_go_131 : decode cX12_go 131 = .ok (.bipush 44, 2) := by decide +kernel
theorem dX12_go_133 : decode cX12_go 133 = .ok (.if_icmp .ne 19, 3) := by decide +kernel
theorem dX12_go_136 : decode cX12_go 136 = .ok (.aload_n 0, 1) := by decide +kernel
theorem dX12_go_137 : decode cX12_go 137 = .ok (.getfield 83, 3) := by decide +kernel
theorem dX12_go_140 : decode cX12_go 140 = .ok (.iconst 4, 1) := by decide +kernel
theorem dX12_go_141 : decode cX12_go 141 = .ok (.if_icmp .ge 7, 3) := by decide +kernel
theorem dX12_go_144 : decode cX12_go 144 = .ok (.iconst 1, 1) := by decide +kernel
theorem dX12_go_145 : decode cX12_go 145 = .ok (.goto 26, 3) := by decide +kernel
theorem dX12_go_148 : decode cX12_go 148 = .ok (.iconst 0, 1) := by decide +kernel
theorem dX12_go_149 : decode cX12_go 149 = .ok (.goto 22, 3) := by decide +kernel
theorem dX12_go_152 : decode cX12_go 152 = .ok (.iload_n 1, 1) := by decide +kernel
theorem dX12_go_153 : decode cX12_go 153 = .ok (.bipush 59, 2) := by decide +kernel
theorem dX12_go_155 : decode cX12_go 155 = .ok (.if_icmp .ne 15, 3) := by decide +kernel
theorem dX12_go_158 : decode cX12_go 158 = .ok (.aload_n 0, 1) := by decide +kernel
theorem dX12_go_159 : decode cX12_go 159 = .ok (.getfield 83, 3) := by decide +kernel
theorem dX12_go_162 : decode cX12_go 162 = .ok (.iconst 1, 1) := by decide +kernel
theorem dX12_go_163 : decode cX12_go 163 = .ok (.if_icmp .le 7, 3) := by decide +kernel
theorem dX12_go_166 : decode cX12_go 166 = .ok (.iconst 1, 1) := by decide +kernel
theorem dX12_go_167 : decode cX12_go 167 = .ok (.goto 4, 3) := by decide +kernel
theorem dX12_go_170 : decode cX12_go 170 = .ok (.iconst 0, 1) := by decide +kernel
theorem dX12_go_171 : decode cX12_go 171 = .ok (.ireturn, 1) := by decide +kernel
theorem dX12_go_172 : decode cX12_go 172 = .ok (.aload_n 0, 1) := by decide +kernel
theorem dX12_go_173 : decode cX12_go 173 = .ok (.iload_n 2, 1) := by decide +kernel
theorem dX12_go_174 : decode cX12_go 174 = .ok (.putfield 92, 3) := by decide +kernel
theorem dX12_go_177 : decode cX12_go 177 = .ok (.iload_n 2, 1) := by decide +kernel
theorem dX12_go_178 : decode cX12_go 178 = .ok (.i2l, 1) := by decide +kernel
theorem dX12_go_179 : decode cX12_go 179 = .ok (.lconst 1, 1) := by decide +kernel
theorem dX12_go_180 : decode cX12_go 180 = .ok (.ldc2_w 95, 3) := by decide +kernel
theorem dX12_go_183 : decode cX12_go 183 = .ok (.invokestatic 73, 3) := by decide +kernel
theorem dX12_go_186 : decode cX12_go 186 = .ok (.ireturn, 1) := by decide +kernel
theorem dX12_go_187 : decode cX12_go 187 = .ok (.iconst 0, 1) := by decide +kernel
theorem dX12_go_188 : decode cX12_go 188 = .ok (.ireturn, 1) := by decide +kernel
set_option maxRecDepth 20000 in
theorem ggX12_faultOf_X12_go : GoodIn wsX12_faultOf wsX12_go := goodIn_r _ [9, 2, 10, 1, 11, 12, 13, 14, 15, 8, 16, 17, 18, 19, 20, 21, 22, 23, 24, 25, 26, 27, 28, 29, 30, 31, 32, 33, 34, 35, 36, 37, 38, 39, 40, 41, 42, 43, 44, 45, 46, 47, 48, 49, 50, 51, 52, 53, 54, 55, 56, 57] (by decide +kernel) (by decide +kernel)
set_option maxRecDepth 20000 in
theorem gX12_faultOf_X12_go : GoodIn wsX12_faultOf (wsV RX12 97 RX12 yX12_go wsX12_go) := goodIn_app (goodIn_of _ (by decide +kernel)) ggX12_faultOf_X12_go
theorem dX12_faultOf_0 : decode cX12_faultOf 0 = .ok (.aload_n 0, 1) := by decide +kernel
theorem dX12_faultOf_1 : decode cX12_faultOf 1 = .ok (.iconst 0, 1) := by decide +kernel
theorem dX12_faultOf_2 : decode cX12_faultOf 2 = .ok (.putfield 83, 3) := by decide +kernel
theorem dX12_faultOf_5 : decode cX12_faultOf 5 = .ok (.aload_n 0, 1) := by decide +kernel
theorem dX12_faultOf_6 : decode cX12_faultOf 6 = .ok (.iconst 0, 1) := by decide +kernel
theorem dX12_faultOf_7 : decode cX12_faultOf 7 = .ok (.putfield 80, 3) := by decide +kernel
theorem dX12_faultOf_10 : decode cX12_faultOf 10 = .ok (.iconst 0, 1) := by decide +kernel
theorem dX12_faultOf_11 : decode cX12_faultOf 11 = .ok (.istore_n 1, 1) := by decide +kernel
theorem dX12_faultOf_12 : decode cX12_faultOf 12 = .ok (.iload_n 1, 1) := by decide +kernel
theorem dX12_faultOf_13 : decode cX12_faultOf 13 = .ok (.aload_n 0, 1) := by decide +kernel
theorem dX12_faultOf_14 : decode cX12_faultOf 14 = .ok (.getfield 77, 3) := by decide +kernel
theorem dX12_faultOf_17 : decode cX12_faultOf 17 = .ok (.if_icmp .ge 22, 3) := by decide +kernel
theorem dX12_faultOf_20 : decode cX12_faultOf 20 = .ok (.aload_n 0, 1) := by decide +kernel
theorem dX12_faultOf_21 : decode cX12_faultOf 21 = .ok (.aload_n 0, 1) := by decide +kernel
theorem dX12_faultOf_22 : decode cX12_faultOf 22 = .ok (.getfield 7, 3) := by decide +kernel
theorem dX12_faultOf_25 : decode cX12_faultOf 25 = .ok (.iload_n 1, 1) := by decide +kernel
theorem dX12_faultOf_26 : decode cX12_faultOf 26 = .ok (.iaload, 1) := by decide +kernel
theorem dX12_faultOf_27 : decode cX12_faultOf 27 = .ok (.invokevirtual 97, 3) := by decide +kernel
theorem dX12_faultOf_30 : decode cX12_faultOf 30 = .ok (.ifCond .eq 9, 3) := by decide +kernel
theorem dX12_faultOf_33 : decode cX12_faultOf 33 = .ok (.iinc 1 1, 3) := by decide +kernel
theorem dX12_faultOf_36 : decode cX12_faultOf 36 = .ok (.goto (-24), 3) := by decide +kernel
theorem dX12_faultOf_39 : decode cX12_faultOf 39 = .ok (.iload_n 1, 1) := by decide +kernel
theorem dX12_faultOf_40 : decode cX12_faultOf 40 = .ok (.ireturn, 1) := by decide +kernel
set_option maxRecDepth 20000 in
theorem ggX12_fault_X12_faultOf : GoodIn wsX12_fault wsX12_faultOf := goodIn_r _ [5, 6, 7, 8, 9, 10, 11, 12, 4, 13, 14, 15, 16, 17, 18, 19, 20, 21, 22, 23, 24, 25, 26, 27, 28, 29, 30, 31, 32, 33, 34, 35, 36, 37, 38, 39, 40, 41, 42, 43, 44, 45, 46, 47, 48, 49, 50, 51, 52, 53, 54, 55, 56, 57, 58, 59, 60, 61] (by decide +kernel) (by decide +kernel)
set_option maxRecDepth 20000 in
theorem gX12_fault_X12_faultOf : GoodIn wsX12_fault (wsV RX12 101 RX12 yX12_faultOf wsX12_faultOf) := goodIn_app (goodIn_of _ (by decide +kernel)) ggX12_fault_X12_faultOf
theorem dX12_fault_0 : decode cX12_fault 0 = .ok (.aload_n 0, 1) := by decide +kernel
theorem dX12_fault_1 : decode cX12_fault 1 = .ok (.invokevirtual 101, 3) := by decide +kernel
theorem dX12_fault_4 : decode cX12_fault 4 = .ok (.ireturn, 1) := by decide +kernel
set_option maxRecDepth 20000 in
theorem ggX12_hills_X12_faultOf : GoodIn wsX12_hills wsX12_faultOf := goodIn_r _ [20, 3, 2, 1, 21, 22, 23, 24, 19, 25, 6, 26, 9, 27, 28, 29, 30, 31, 32, 33, 34, 35, 36, 37, 38, 39, 40, 41, 42, 43, 44, 45, 46, 47, 48, 49, 50, 51, 52, 53, 54, 55, 56, 57, 58, 59, 60, 61, 62, 63, 64, 65, 66, 67, 68, 69, 70, 71] (by decide +kernel) (by decide +kernel)
set_option maxRecDepth 20000 in
theorem gX12_hills_X12_faultOf : GoodIn wsX12_hills (wsV RX12 101 RX12 yX12_faultOf wsX12_faultOf) := goodIn_app (goodIn_of _ (by decide +kernel)) ggX12_hills_X12_faultOf
theorem dX12_hills_0 : decode cX12_hills 0 = .ok (.aload_n 0, 1) := by decide +kernel
theorem dX12_hills_1 : decode cX12_hills 1 = .ok (.invokevirtual 101, 3) := by decide +kernel
theorem dX12_hills_4 : decode cX12_hills 4 = .ok (.aload_n 0, 1) := by decide +kernel
theorem dX12_hills_5 : decode cX12_hills 5 = .ok (.getfield 77, 3) := by decide +kernel
theorem dX12_hills_8 : decode cX12_hills 8 = .ok (.if_icmp .lt 11, 3) := by decide +kernel
theorem dX12_hills_11 : decode cX12_hills 11 = .ok (.aload_n 0, 1) := by decide +kernel
theorem dX12_hills_12 : decode cX12_hills 12 = .ok (.getfield 80, 3) := by decide +kernel
theorem dX12_hills_15 : decode cX12_hills 15 = .ok (.iconst 4, 1) := by decide +kernel
theorem dX12_hills_16 : decode cX12_hills 16 = .ok (.if_icmp .eq 6, 3) := by decide +kernel
theorem dX12_hills_19 : decode cX12_hills 19 = .ok (.bipush (-103), 2) := by decide +kernel
theorem dX12_hills_21 : decode cX12_hills 21 = .ok (.ireturn, 1) := by decide +kernel
theorem dX12_hills_22 : decode cX12_hills 22 = .ok (.aload_n 0, 1) := by decide +kernel
theorem dX12_hills_23 : decode cX12_hills 23 = .ok (.aload_n 0, 1) := by decide +kernel
theorem dX12_hills_24 : decode cX12_hills 24 = .ok (.getfield 83, 3) := by decide +kernel
theorem dX12_hills_27 : decode cX12_hills 27 = .ok (.putfield 105, 3) := by decide +kernel
theorem dX12_hills_30 : decode cX12_hills 30 = .ok (.iconst 0, 1) := by decide +kernel
theorem dX12_hills_31 : decode cX12_hills 31 = .ok (.istore_n 1, 1) := by decide +kernel
theorem dX12_hills_32 : decode cX12_hills 32 = .ok (.iload_n 1, 1) := by decide +kernel
theorem dX12_hills_33 : decode cX12_hills 33 = .ok (.aload_n 0, 1) := by decide +kernel
theorem dX12_hills_34 : decode cX12_hills 34 = .ok (.getfield 105, 3) := by decide +kernel
theorem dX12_hills_37 : decode cX12_hills 37 = .ok (.if_icmp .ge 39, 3) := by decide +kernel
theorem dX12_hills_40 : decode cX12_hills 40 = .ok (.aload_n 0, 1) := by decide +kernel
theorem dX12_hills_41 : decode cX12_hills 41 = .ok (.getfield 16, 3) := by decide +kernel
theorem dX12_hills_44 : decode cX12_hills 44 = .ok (.iload_n 1, 1) := by decide +kernel
theorem dX12_hills_45 : decode cX12_hills 45 = .ok (.aload_n 0, 1) := by decide +kernel
theorem dX12_hills_46 : decode cX12_hills 46 = .ok (.getfield 13, 3) := by decide +kernel
theorem dX12_hills_49 : decode cX12_hills 49 = .ok (.iconst 2, 1) := by decide +kernel
theorem dX12_hills_50 : decode cX12_hills 50 = .ok (.iload_n 1, 1) := by decide +kernel
theorem dX12_hills_51 : decode cX12_hills 51 = .ok (.imul, 1) := by decide +kernel
theorem dX12_hills_52 : decode cX12_hills 52 = .ok (.iaload, 1) := by decide +kernel
theorem dX12_hills_53 : decode cX12_hills 53 = .ok (.iastore, 1) := by decide +kernel
end
section
theorem dX12_hills_54 : decode cX12_hills 54 = .ok (.aload_n 0, 1) := by decide +kernel
theorem dX12_hills_55 : decode cX12_hills 55 = .ok (.getfield 19, 3) := by decide +kernel
theorem dX12_hills_58 : decode cX12_hills 58 = .ok (.iload_n 1, 1) := by decide +kernel
theorem dX12_hills_59 : decode cX12_hills 59 = .ok (.aload_n 0, 1) := by decide +kernel
theorem dX12_hills_60 : decode cX12_hills 60 = .ok (.getfield 13, 3) := by decide +kernel
theorem dX12_hills_63 : decode cX12_hills 63 = .ok (.iconst 2, 1) := by decide +kernel
theorem dX12_hills_64 : decode cX12_hills 64 = .ok (.iload_n 1, 1) := by decide +kernel
theorem dX12_hills_65 : decode cX12_hills 65 = .ok (.imul, 1) := by decide +kernel
theorem dX12_hills_66 : decode cX12_hills 66 = .ok (.iconst 1, 1) := by decide +kernel
theorem dX12_hills_67 : decode cX12_hills 67 = .ok (.iadd, 1) := by decide +kernel
theorem dX12_hills_68 : decode cX12_hills 68 = .ok (.iaload, 1) := by decide +kernel
theorem dX12_hills_69 : decode cX12_hills 69 = .ok (.iastore, 1) := by decide +kernel
theorem dX12_hills_70 : decode cX12_hills 70 = .ok (.iinc 1 1, 3) := by decide +kernel
theorem dX12_hills_73 : decode cX12_hills 73 = .ok (.goto (-41), 3) := by decide +kernel
theorem dX12_hills_76 : decode cX12_hills 76 = .ok (.iconst 0, 1) := by decide +kernel
theorem dX12_hills_77 : decode cX12_hills 77 = .ok (.istore_n 1, 1) := by decide +kernel
theorem dX12_hills_78 : decode cX12_hills 78 = .ok (.iload_n 1, 1) := by decide +kernel
theorem dX12_hills_79 : decode cX12_hills 79 = .ok (.bipush 16, 2) := by decide +kernel
theorem dX12_hills_81 : decode cX12_hills 81 = .ok (.if_icmp .ge 16, 3) := by decide +kernel
theorem dX12_hills_84 : decode cX12_hills 84 = .ok (.aload_n 0, 1) := by decide +kernel
theorem dX12_hills_85 : decode cX12_hills 85 = .ok (.getfield 22, 3) := by decide +kernel
theorem dX12_hills_88 : decode cX12_hills 88 = .ok (.iload_n 1, 1) := by decide +kernel
theorem dX12_hills_89 : decode cX12_hills 89 = .ok (.iconst 0, 1) := by decide +kernel
theorem dX12_hills_90 : decode cX12_hills 90 = .ok (.iastore, 1) := by decide +kernel
theorem dX12_hills_91 : decode cX12_hills 91 = .ok (.iinc 1 1, 3) := by decide +kernel
theorem dX12_hills_94 : decode cX12_hills 94 = .ok (.goto (-16), 3) := by decide +kernel
theorem dX12_hills_97 : decode cX12_hills 97 = .ok (.aload_n 0, 1) := by decide +kernel
theorem dX12_hills_98 : decode cX12_hills 98 = .ok (.aload_n 0, 1) := by decide +kernel
theorem dX12_hills_99 : decode cX12_hills 99 = .ok (.getfield 92, 3) := by decide +kernel
theorem dX12_hills_102 : decode cX12_hills 102 = .ok (.putfield 108, 3) := by decide +kernel
theorem dX12_hills_105 : decode cX12_hills 105 = .ok (.aload_n 0, 1) := by decide +kernel
theorem dX12_hills_106 : decode cX12_hills 106 = .ok (.iconst 0, 1) := by decide +kernel
theorem dX12_hills_107 : decode cX12_hills 107 = .ok (.putfield 111, 3) := by decide +kernel
theorem dX12_hills_110 : decode cX12_hills 110 = .ok (.aload_n 0, 1) := by decide +kernel
theorem dX12_hills_111 : decode cX12_hills 111 = .ok (.iconst 0, 1) := by decide +kernel
theorem dX12_hills_112 : decode cX12_hills 112 = .ok (.putfield 114, 3) := by decide +kernel
theorem dX12_hills_115 : decode cX12_hills 115 = .ok (.aload_n 0, 1) := by decide +kernel
theorem dX12_hills_116 : decode cX12_hills 116 = .ok (.iconst 0, 1) := by decide +kernel
theorem dX12_hills_117 : decode cX12_hills 117 = .ok (.putfield 117, 3) := by decide +kernel
theorem dX12_hills_120 : decode cX12_hills 120 = .ok (.aload_n 0, 1) := by decide +kernel
theorem dX12_hills_121 : decode cX12_hills 121 = .ok (.iconst 0, 1) := by decide +kernel
theorem dX12_hills_122 : decode cX12_hills 122 = .ok (.putfield 120, 3) := by decide +kernel
theorem dX12_hills_125 : decode cX12_hills 125 = .ok (.aload_n 0, 1) := by decide +kernel
theorem dX12_hills_126 : decode cX12_hills 126 = .ok (.dup, 1) := by decide +kernel
theorem dX12_hills_127 : decode cX12_hills 127 = .ok (.getfield 123, 3) := by decide +kernel
theorem dX12_hills_130 : decode cX12_hills 130 = .ok (.iconst 1, 1) := by decide +kernel
theorem dX12_hills_131 : decode cX12_hills 131 = .ok (.iadd, 1) := by decide +kernel
theorem dX12_hills_132 : decode cX12_hills 132 = .ok (.putfield 123, 3) := by decide +kernel
theorem dX12_hills_135 : decode cX12_hills 135 = .ok (.aload_n 0, 1) := by decide +kernel
theorem dX12_hills_136 : decode cX12_hills 136 = .ok (.iconst 0, 1) := by decide +kernel
theorem dX12_hills_137 : decode cX12_hills 137 = .ok (.putfield 77, 3) := by decide +kernel
theorem dX12_hills_140 : decode cX12_hills 140 = .ok (.aload_n 0, 1) := by decide +kernel
theorem dX12_hills_141 : decode cX12_hills 141 = .ok (.getfield 105, 3) := by decide +kernel
theorem dX12_hills_144 : decode cX12_hills 144 = .ok (.ireturn, 1) := by decide +kernel
theorem dX12_lacks_0 : decode cX12_lacks 0 = .ok (.aload_n 0, 1) := by decide +kernel
theorem dX12_lacks_1 : decode cX12_lacks 1 = .ok (.getfield 105, 3) := by decide +kernel
theorem dX12_lacks_4 : decode cX12_lacks 4 = .ok (.ifCond .ne 7, 3) := by decide +kernel
theorem dX12_lacks_7 : decode cX12_lacks 7 = .ok (.iconst 1, 1) := by decide +kernel
theorem dX12_lacks_8 : decode cX12_lacks 8 = .ok (.goto 4, 3) := by decide +kernel
theorem dX12_lacks_11 : decode cX12_lacks 11 = .ok (.iconst 0, 1) := by decide +kernel
theorem dX12_lacks_12 : decode cX12_lacks 12 = .ok (.ireturn, 1) := by decide +kernel
set_option maxRecDepth 20000 in
theorem ggX12_isClan_X12_in : GoodIn wsX12_isClan wsX12_in := goodIn_r _ [5] (by decide +kernel) (by decide +kernel)
set_option maxRecDepth 20000 in
theorem gX12_isClan_X12_in : GoodIn wsX12_isClan (va_wsS RX12 73 yX12_in wsX12_in) := goodIn_app (goodIn_of _ (by decide +kernel)) ggX12_isClan_X12_in
theorem dX12_isClan_0 : decode cX12_isClan 0 = .ok (.iload_n 1, 1) := by decide +kernel
theorem dX12_isClan_1 : decode cX12_isClan 1 = .ok (.i2l, 1) := by decide +kernel
theorem dX12_isClan_2 : decode cX12_isClan 2 = .ok (.lconst 0, 1) := by decide +kernel
theorem dX12_isClan_3 : decode cX12_isClan 3 = .ok (.aload_n 0, 1) := by decide +kernel
theorem dX12_isClan_4 : decode cX12_isClan 4 = .ok (.getfield 105, 3) := by decide +kernel
theorem dX12_isClan_7 : decode cX12_isClan 7 = .ok (.iconst 1, 1) := by decide +kernel
theorem dX12_isClan_8 : decode cX12_isClan 8 = .ok (.isub, 1) := by decide +kernel
theorem dX12_isClan_9 : decode cX12_isClan 9 = .ok (.i2l, 1) := by decide +kernel
theorem dX12_isClan_10 : decode cX12_isClan 10 = .ok (.invokestatic 73, 3) := by decide +kernel
theorem dX12_isClan_13 : decode cX12_isClan 13 = .ok (.ireturn, 1) := by decide +kernel
set_option maxRecDepth 20000 in
theorem ggX12_areTwo_X12_isClan : GoodIn wsX12_areTwo wsX12_isClan := goodIn_r _ [5, 6, 7, 8, 4, 9, 10, 11, 12, 13, 14, 15, 16, 17, 18, 19, 20, 21, 22, 23, 24, 25, 26, 27, 28, 29, 30, 31, 32, 33, 34, 35, 36, 37, 38, 39, 40, 41, 42, 43, 44, 45, 46, 47] (by decide +kernel) (by decide +kernel)
set_option maxRecDepth 20000 in
theorem gX12_areTwo_X12_isClan : GoodIn wsX12_areTwo (wsV RX12 126 RX12 yX12_isClan wsX12_isClan) := goodIn_app (goodIn_of _ (by decide +kernel)) ggX12_areTwo_X12_isClan
theorem dX12_areTwo_0 : decode cX12_areTwo 0 = .ok (.aload_n 0, 1) := by decide +kernel
theorem dX12_areTwo_1 : decode cX12_areTwo 1 = .ok (.iload_n 1, 1) := by decide +kernel
theorem dX12_areTwo_2 : decode cX12_areTwo 2 = .ok (.invokevirtual 126, 3) := by decide +kernel
theorem dX12_areTwo_5 : decode cX12_areTwo 5 = .ok (.ifCond .eq 20, 3) := by decide +kernel
theorem dX12_areTwo_8 : decode cX12_areTwo 8 = .ok (.aload_n 0, 1) := by decide +kernel
theorem dX12_areTwo_9 : decode cX12_areTwo 9 = .ok (.iload_n 2, 1) := by decide +kernel
theorem dX12_areTwo_10 : decode cX12_areTwo 10 = .ok (.invokevirtual 126, 3) := by decide +kernel
theorem dX12_areTwo_13 : decode cX12_areTwo 13 = .ok (.ifCond .eq 12, 3) := by decide +kernel
theorem dX12_areTwo_16 : decode cX12_areTwo 16 = .ok (.iload_n 1, 1) := by decide +kernel
theorem dX12_areTwo_17 : decode cX12_areTwo 17 = .ok (.iload_n 2, 1) := by decide +kernel
theorem dX12_areTwo_18 : decode cX12_areTwo 18 = .ok (.if_icmp .eq 7, 3) := by decide +kernel
theorem dX12_areTwo_21 : decode cX12_areTwo 21 = .ok (.iconst 1, 1) := by decide +kernel
theorem dX12_areTwo_22 : decode cX12_areTwo 22 = .ok (.goto 4, 3) := by decide +kernel
theorem dX12_areTwo_25 : decode cX12_areTwo 25 = .ok (.iconst 0, 1) := by decide +kernel
theorem dX12_areTwo_26 : decode cX12_areTwo 26 = .ok (.ireturn, 1) := by decide +kernel
theorem dX12_asksBy_0 : decode cX12_asksBy 0 = .ok (.iload_n 0, 1) := by decide +kernel
theorem dX12_asksBy_1 : decode cX12_asksBy 1 = .ok (.iconst 1, 1) := by decide +kernel
theorem dX12_asksBy_2 : decode cX12_asksBy 2 = .ok (.if_icmp .ne 9, 3) := by decide +kernel
theorem dX12_asksBy_5 : decode cX12_asksBy 5 = .ok (.iload_n 1, 1) := by decide +kernel
theorem dX12_asksBy_6 : decode cX12_asksBy 6 = .ok (.iconst 1, 1) := by decide +kernel
theorem dX12_asksBy_7 : decode cX12_asksBy 7 = .ok (.iadd, 1) := by decide +kernel
theorem dX12_asksBy_8 : decode cX12_asksBy 8 = .ok (.goto 37, 3) := by decide +kernel
theorem dX12_asksBy_11 : decode cX12_asksBy 11 = .ok (.iload_n 0, 1) := by decide +kernel
theorem dX12_asksBy_12 : decode cX12_asksBy 12 = .ok (.iconst 2, 1) := by decide +kernel
theorem dX12_asksBy_13 : decode cX12_asksBy 13 = .ok (.if_icmp .ne 18, 3) := by decide +kernel
theorem dX12_asksBy_16 : decode cX12_asksBy 16 = .ok (.iload_n 1, 1) := by decide +kernel
theorem dX12_asksBy_17 : decode cX12_asksBy 17 = .ok (.iconst 1, 1) := by decide +kernel
theorem dX12_asksBy_18 : decode cX12_asksBy 18 = .ok (.if_icmp .le 9, 3) := by decide +kernel
theorem dX12_asksBy_21 : decode cX12_asksBy 21 = .ok (.iload_n 1, 1) := by decide +kernel
theorem dX12_asksBy_22 : decode cX12_asksBy 22 = .ok (.iconst 1, 1) := by decide +kernel
theorem dX12_asksBy_23 : decode cX12_asksBy 23 = .ok (.isub, 1) := by decide +kernel
theorem dX12_asksBy_24 : decode cX12_asksBy 24 = .ok (.goto 21, 3) := by decide +kernel
theorem dX12_asksBy_27 : decode cX12_asksBy 27 = .ok (.iconst 1, 1) := by decide +kernel
theorem dX12_asksBy_28 : decode cX12_asksBy 28 = .ok (.goto 17, 3) := by decide +kernel
theorem dX12_asksBy_31 : decode cX12_asksBy 31 = .ok (.iload_n 0, 1) := by decide +kernel
theorem dX12_asksBy_32 : decode cX12_asksBy 32 = .ok (.iconst 4, 1) := by decide +kernel
theorem dX12_asksBy_33 : decode cX12_asksBy 33 = .ok (.if_icmp .ne 11, 3) := by decide +kernel
theorem dX12_asksBy_36 : decode cX12_asksBy 36 = .ok (.iconst 2, 1) := by decide +kernel
theorem dX12_asksBy_37 : decode cX12_asksBy 37 = .ok (.iload_n 1, 1) := by decide +kernel
theorem dX12_asksBy_38 : decode cX12_asksBy 38 = .ok (.imul, 1) := by decide +kernel
theorem dX12_asksBy_39 : decode cX12_asksBy 39 = .ok (.iconst 2, 1) := by decide +kernel
theorem dX12_asksBy_40 : decode cX12_asksBy 40 = .ok (.iadd, 1) := by decide +kernel
theorem dX12_asksBy_41 : decode cX12_asksBy 41 = .ok (.goto 4, 3) := by decide +kernel
theorem dX12_asksBy_44 : decode cX12_asksBy 44 = .ok (.iload_n 1, 1) := by decide +kernel
theorem dX12_asksBy_45 : decode cX12_asksBy 45 = .ok (.ireturn, 1) := by decide +kernel
theorem dX12_spareOf_0 : decode cX12_spareOf 0 = .ok (.aload_n 0, 1) := by decide +kernel
theorem dX12_spareOf_1 : decode cX12_spareOf 1 = .ok (.getfield 16, 3) := by decide +kernel
theorem dX12_spareOf_4 : decode cX12_spareOf 4 = .ok (.iload_n 1, 1) := by decide +kernel
theorem dX12_spareOf_5 : decode cX12_spareOf 5 = .ok (.iaload, 1) := by decide +kernel
theorem dX12_spareOf_6 : decode cX12_spareOf 6 = .ok (.iconst 3, 1) := by decide +kernel
theorem dX12_spareOf_7 : decode cX12_spareOf 7 = .ok (.if_icmp .ne 7, 3) := by decide +kernel
theorem dX12_spareOf_10 : decode cX12_spareOf 10 = .ok (.iconst 1, 1) := by decide +kernel
theorem dX12_spareOf_11 : decode cX12_spareOf 11 = .ok (.goto 4, 3) := by decide +kernel
theorem dX12_spareOf_14 : decode cX12_spareOf 14 = .ok (.iconst 0, 1) := by decide +kernel
theorem dX12_spareOf_15 : decode cX12_spareOf 15 = .ok (.istore_n 2, 1) := by decide +kernel
theorem dX12_spareOf_16 : decode cX12_spareOf 16 = .ok (.aload_n 0, 1) := by decide +kernel
theorem dX12_spareOf_17 : decode cX12_spareOf 17 = .ok (.getfield 19, 3) := by decide +kernel
theorem dX12_spareOf_20 : decode cX12_spareOf 20 = .ok (.iload_n 1, 1) := by decide +kernel
theorem dX12_spareOf_21 : decode cX12_spareOf 21 = .ok (.iaload, 1) := by decide +kernel
theorem dX12_spareOf_22 : decode cX12_spareOf 22 = .ok (.iload_n 2, 1) := by decide +kernel
theorem dX12_spareOf_23 : decode cX12_spareOf 23 = .ok (.if_icmp .le 14, 3) := by decide +kernel
theorem dX12_spareOf_26 : decode cX12_spareOf 26 = .ok (.aload_n 0, 1) := by decide +kernel
theorem dX12_spareOf_27 : decode cX12_spareOf 27 = .ok (.getfield 19, 3) := by decide +kernel
theorem dX12_spareOf_30 : decode cX12_spareOf 30 = .ok (.iload_n 1, 1) := by decide +kernel
theorem dX12_spareOf_31 : decode cX12_spareOf 31 = .ok (.iaload, 1) := by decide +kernel
theorem dX12_spareOf_32 : decode cX12_spareOf 32 = .ok (.iload_n 2, 1) := by decide +kernel
theorem dX12_spareOf_33 : decode cX12_spareOf 33 = .ok (.isub, 1) := by decide +kernel
theorem dX12_spareOf_34 : decode cX12_spareOf 34 = .ok (.goto 4, 3) := by decide +kernel
theorem dX12_spareOf_37 : decode cX12_spareOf 37 = .ok (.iconst 0, 1) := by decide +kernel
theorem dX12_spareOf_38 : decode cX12_spareOf 38 = .ok (.ireturn, 1) := by decide +kernel
set_option maxRecDepth 20000 in
theorem ggX12_paysNow_X12_spareOf : GoodIn wsX12_paysNow wsX12_spareOf := goodIn_r _ [6, 7, 1, 8, 9, 10, 11, 12, 13, 14, 15, 16, 17, 18, 19, 20, 21, 22, 23, 24, 25, 26, 27, 28, 29, 30, 31, 32, 33, 34, 35, 36, 37, 38, 39, 40, 41, 42, 43, 44, 45] (by decide +kernel) (by decide +kernel)
set_option maxRecDepth 20000 in
theorem gX12_paysNow_X12_spareOf : GoodIn wsX12_paysNow (wsV RX12 129 RX12 yX12_spareOf wsX12_spareOf) := goodIn_app (goodIn_of _ (by decide +kernel)) ggX12_paysNow_X12_spareOf
theorem dX12_paysNow_0 : decode cX12_paysNow 0 = .ok (.iload_n 3, 1) := by decide +kernel
theorem dX12_paysNow_1 : decode cX12_paysNow 1 = .ok (.aload_n 0, 1) := by decide +kernel
theorem dX12_paysNow_2 : decode cX12_paysNow 2 = .ok (.iload_n 1, 1) := by decide +kernel
theorem dX12_paysNow_3 : decode cX12_paysNow 3 = .ok (.invokevirtual 129, 3) := by decide +kernel
theorem dX12_paysNow_6 : decode cX12_paysNow 6 = .ok (.if_icmp .ge 7, 3) := by decide +kernel
theorem dX12_paysNow_9 : decode cX12_paysNow 9 = .ok (.iload_n 3, 1) := by decide +kernel
theorem dX12_paysNow_10 : decode cX12_paysNow 10 = .ok (.goto 8, 3) := by decide +kernel
theorem dX12_paysNow_13 : decode cX12_paysNow 13 = .ok (.aload_n 0, 1) := by decide +kernel
theorem dX12_paysNow_14 : decode cX12_paysNow 14 = .ok (.iload_n 1, 1) := by decide +kernel
theorem dX12_paysNow_15 : decode cX12_paysNow 15 = .ok (.invokevirtual 129, 3) := by decide +kernel
theorem dX12_paysNow_18 : decode cX12_paysNow 18 = .ok (.istore 4, 2) := by decide +kernel
theorem dX12_paysNow_20 : decode cX12_paysNow 20 = .ok (.aload_n 0, 1) := by decide +kernel
theorem dX12_paysNow_21 : decode cX12_paysNow 21 = .ok (.getfield 19, 3) := by decide +kernel
theorem dX12_paysNow_24 : decode cX12_paysNow 24 = .ok (.iload_n 1, 1) := by decide +kernel
theorem dX12_paysNow_25 : decode cX12_paysNow 25 = .ok (.dup2, 1) := by decide +kernel
theorem dX12_paysNow_26 : decode cX12_paysNow 26 = .ok (.iaload, 1) := by decide +kernel
theorem dX12_paysNow_27 : decode cX12_paysNow 27 = .ok (.iload 4, 2) := by decide +kernel
theorem dX12_paysNow_29 : decode cX12_paysNow 29 = .ok (.isub, 1) := by decide +kernel
theorem dX12_paysNow_30 : decode cX12_paysNow 30 = .ok (.iastore, 1) := by decide +kernel
theorem dX12_paysNow_31 : decode cX12_paysNow 31 = .ok (.aload_n 0, 1) := by decide +kernel
theorem dX12_paysNow_32 : decode cX12_paysNow 32 = .ok (.getfield 19, 3) := by decide +kernel
theorem dX12_paysNow_35 : decode cX12_paysNow 35 = .ok (.iload_n 2, 1) := by decide +kernel
theorem dX12_paysNow_36 : decode cX12_paysNow 36 = .ok (.dup2, 1) := by decide +kernel
theorem dX12_paysNow_37 : decode cX12_paysNow 37 = .ok (.iaload, 1) := by decide +kernel
theorem dX12_paysNow_38 : decode cX12_paysNow 38 = .ok (.iload 4, 2) := by decide +kernel
theorem dX12_paysNow_40 : decode cX12_paysNow 40 = .ok (.iadd, 1) := by decide +kernel
theorem dX12_paysNow_41 : decode cX12_paysNow 41 = .ok (.iastore, 1) := by decide +kernel
theorem dX12_paysNow_42 : decode cX12_paysNow 42 = .ok (.iload 4, 2) := by decide +kernel
theorem dX12_paysNow_44 : decode cX12_paysNow 44 = .ok (.ireturn, 1) := by decide +kernel
set_option maxRecDepth 20000 in
theorem ggX12_pays_X12_paysNow : GoodIn wsX12_pays wsX12_paysNow := goodIn_r _ [6, 7, 8, 9, 10, 5, 11, 12, 13, 14, 15, 16, 17, 18, 19, 20, 21, 22, 23, 24, 25, 26, 27, 28, 29, 30, 31, 32, 33, 34, 35, 36, 37, 38, 39, 40, 41, 42, 43, 44, 45, 46, 47, 48, 49, 50] (by decide +kernel) (by decide +kernel)
set_option maxRecDepth 20000 in
theorem gX12_pays_X12_paysNow : GoodIn wsX12_pays (wsV RX12 132 RX12 yX12_paysNow wsX12_paysNow) := goodIn_app (goodIn_of _ (by decide +kernel)) ggX12_pays_X12_paysNow
theorem dX12_pays_0 : decode cX12_pays 0 = .ok (.aload_n 0, 1) := by decide +kernel
theorem dX12_pays_1 : decode cX12_pays 1 = .ok (.iload_n 1, 1) := by decide +kernel
theorem dX12_pays_2 : decode cX12_pays 2 = .ok (.iload_n 2, 1) := by decide +kernel
theorem dX12_pays_3 : decode cX12_pays 3 = .ok (.iload_n 3, 1) := by decide +kernel
theorem dX12_pays_4 : decode cX12_pays 4 = .ok (.invokevirtual 132, 3) := by decide +kernel
theorem dX12_pays_7 : decode cX12_pays 7 = .ok (.istore 4, 2) := by decide +kernel
theorem dX12_pays_9 : decode cX12_pays 9 = .ok (.aload_n 0, 1) := by decide +kernel
theorem dX12_pays_10 : decode cX12_pays 10 = .ok (.getfield 22, 3) := by decide +kernel
theorem dX12_pays_13 : decode cX12_pays 13 = .ok (.iconst 4, 1) := by decide +kernel
theorem dX12_pays_14 : decode cX12_pays 14 = .ok (.iload_n 1, 1) := by decide +kernel
theorem dX12_pays_15 : decode cX12_pays 15 = .ok (.imul, 1) := by decide +kernel
theorem dX12_pays_16 : decode cX12_pays 16 = .ok (.iload_n 2, 1) := by decide +kernel
theorem dX12_pays_17 : decode cX12_pays 17 = .ok (.iadd, 1) := by decide +kernel
theorem dX12_pays_18 : decode cX12_pays 18 = .ok (.dup2, 1) := by decide +kernel
theorem dX12_pays_19 : decode cX12_pays 19 = .ok (.iaload, 1) := by decide +kernel
theorem dX12_pays_20 : decode cX12_pays 20 = .ok (.iload_n 3, 1) := by decide +kernel
theorem dX12_pays_21 : decode cX12_pays 21 = .ok (.iload 4, 2) := by decide +kernel
theorem dX12_pays_23 : decode cX12_pays 23 = .ok (.isub, 1) := by decide +kernel
theorem dX12_pays_24 : decode cX12_pays 24 = .ok (.iadd, 1) := by decide +kernel
theorem dX12_pays_25 : decode cX12_pays 25 = .ok (.iastore, 1) := by decide +kernel
theorem dX12_pays_26 : decode cX12_pays 26 = .ok (.iload 4, 2) := by decide +kernel
theorem dX12_pays_28 : decode cX12_pays 28 = .ok (.ireturn, 1) := by decide +kernel
theorem dX12_owesOf_0 : decode cX12_owesOf 0 = .ok (.aload_n 0, 1) := by decide +kernel
theorem dX12_owesOf_1 : decode cX12_owesOf 1 = .ok (.getfield 22, 3) := by decide +kernel
theorem dX12_owesOf_4 : decode cX12_owesOf 4 = .ok (.iconst 4, 1) := by decide +kernel
theorem dX12_owesOf_5 : decode cX12_owesOf 5 = .ok (.iload_n 1, 1) := by decide +kernel
theorem dX12_owesOf_6 : decode cX12_owesOf 6 = .ok (.imul, 1) := by decide +kernel
theorem dX12_owesOf_7 : decode cX12_owesOf 7 = .ok (.iaload, 1) := by decide +kernel
theorem dX12_owesOf_8 : decode cX12_owesOf 8 = .ok (.aload_n 0, 1) := by decide +kernel
theorem dX12_owesOf_9 : decode cX12_owesOf 9 = .ok (.getfield 22, 3) := by decide +kernel
theorem dX12_owesOf_12 : decode cX12_owesOf 12 = .ok (.iconst 4, 1) := by decide +kernel
theorem dX12_owesOf_13 : decode cX12_owesOf 13 = .ok (.iload_n 1, 1) := by decide +kernel
theorem dX12_owesOf_14 : decode cX12_owesOf 14 = .ok (.imul, 1) := by decide +kernel
theorem dX12_owesOf_15 : decode cX12_owesOf 15 = .ok (.iconst 1, 1) := by decide +kernel
theorem dX12_owesOf_16 : decode cX12_owesOf 16 = .ok (.iadd, 1) := by decide +kernel
theorem dX12_owesOf_17 : decode cX12_owesOf 17 = .ok (.iaload, 1) := by decide +kernel
theorem dX12_owesOf_18 : decode cX12_owesOf 18 = .ok (.iadd, 1) := by decide +kernel
theorem dX12_owesOf_19 : decode cX12_owesOf 19 = .ok (.aload_n 0, 1) := by decide +kernel
theorem dX12_owesOf_20 : decode cX12_owesOf 20 = .ok (.getfield 22, 3) := by decide +kernel
theorem dX12_owesOf_23 : decode cX12_owesOf 23 = .ok (.iconst 4, 1) := by decide +kernel
theorem dX12_owesOf_24 : decode cX12_owesOf 24 = .ok (.iload_n 1, 1) := by decide +kernel
theorem dX12_owesOf_25 : decode cX12_owesOf 25 = .ok (.imul, 1) := by decide +kernel
theorem dX12_owesOf_26 : decode cX12_owesOf 26 = .ok (.iconst 2, 1) := by decide +kernel
theorem dX12_owesOf_27 : decode cX12_owesOf 27 = .ok (.iadd, 1) := by decide +kernel
theorem dX12_owesOf_28 : decode cX12_owesOf 28 = .ok (.iaload, 1) := by decide +kernel
theorem dX12_owesOf_29 : decode cX12_owesOf 29 = .ok (.iadd, 1) := by decide +kernel
theorem dX12_owesOf_30 : decode cX12_owesOf 30 = .ok (.aload_n 0, 1) := by decide +kernel
theorem dX12_owesOf_31 : decode cX12_owesOf 31 = .ok (.getfield 22, 3) := by decide +kernel
theorem dX12_owesOf_34 : decode cX12_owesOf 34 = .ok (.iconst 4, 1) := by decide +kernel
theorem dX12_owesOf_35 : decode cX12_owesOf 35 = .ok (.iload_n 1, 1) := by decide +kernel
theorem dX12_owesOf_36 : decode cX12_owesOf 36 = .ok (.imul, 1) := by decide +kernel
theorem dX12_owesOf_37 : decode cX12_owesOf 37 = .ok (.iconst 3, 1) := by decide +kernel
theorem dX12_owesOf_38 : decode cX12_owesOf 38 = .ok (.iadd, 1) := by decide +kernel
theorem dX12_owesOf_39 : decode cX12_owesOf 39 = .ok (.iaload, 1) := by decide +kernel
theorem dX12_owesOf_40 : decode cX12_owesOf 40 = .ok (.iadd, 1) := by decide +kernel
theorem dX12_owesOf_41 : decode cX12_owesOf 41 = .ok (.ireturn, 1) := by decide +kernel
theorem dX12_owedTo_0 : decode cX12_owedTo 0 = .ok (.aload_n 0, 1) := by decide +kernel
theorem dX12_owedTo_1 : decode cX12_owedTo 1 = .ok (.getfield 22, 3) := by decide +kernel
theorem dX12_owedTo_4 : decode cX12_owedTo 4 = .ok (.iload_n 1, 1) := by decide +kernel
theorem dX12_owedTo_5 : decode cX12_owedTo 5 = .ok (.iaload, 1) := by decide +kernel
theorem dX12_owedTo_6 : decode cX12_owedTo 6 = .ok (.aload_n 0, 1) := by decide +kernel
theorem dX12_owedTo_7 : decode cX12_owedTo 7 = .ok (.getfield 22, 3) := by decide +kernel
theorem dX12_owedTo_10 : decode cX12_owedTo 10 = .ok (.iconst 4, 1) := by decide +kernel
theorem dX12_owedTo_11 : decode cX12_owedTo 11 = .ok (.iload_n 1, 1) := by decide +kernel
theorem dX12_owedTo_12 : decode cX12_owedTo 12 = .ok (.iadd, 1) := by decide +kernel
theorem dX12_owedTo_13 : decode cX12_owedTo 13 = .ok (.iaload, 1) := by decide +kernel
theorem dX12_owedTo_14 : decode cX12_owedTo 14 = .ok (.iadd, 1) := by decide +kernel
theorem dX12_owedTo_15 : decode cX12_owedTo 15 = .ok (.aload_n 0, 1) := by decide +kernel
theorem dX12_owedTo_16 : decode cX12_owedTo 16 = .ok (.getfield 22, 3) := by decide +kernel
theorem dX12_owedTo_19 : decode cX12_owedTo 19 = .ok (.bipush 8, 2) := by decide +kernel
theorem dX12_owedTo_21 : decode cX12_owedTo 21 = .ok (.iload_n 1, 1) := by decide +kernel
theorem dX12_owedTo_22 : decode cX12_owedTo 22 = .ok (.iadd, 1) := by decide +kernel
theorem dX12_owedTo_23 : decode cX12_owedTo 23 = .ok (.iaload, 1) := by decide +kernel
theorem dX12_owedTo_24 : decode cX12_owedTo 24 = .ok (.iadd, 1) := by decide +kernel
theorem dX12_owedTo_25 : decode cX12_owedTo 25 = .ok (.aload_n 0, 1) := by decide +kernel
theorem dX12_owedTo_26 : decode cX12_owedTo 26 = .ok (.getfield 22, 3) := by decide +kernel
theorem dX12_owedTo_29 : decode cX12_owedTo 29 = .ok (.bipush 12, 2) := by decide +kernel
theorem dX12_owedTo_31 : decode cX12_owedTo 31 = .ok (.iload_n 1, 1) := by decide +kernel
theorem dX12_owedTo_32 : decode cX12_owedTo 32 = .ok (.iadd, 1) := by decide +kernel
theorem dX12_owedTo_33 : decode cX12_owedTo 33 = .ok (.iaload, 1) := by decide +kernel
theorem dX12_owedTo_34 : decode cX12_owedTo 34 = .ok (.iadd, 1) := by decide +kernel
theorem dX12_owedTo_35 : decode cX12_owedTo 35 = .ok (.ireturn, 1) := by decide +kernel
theorem dX12_owedAll_0 : decode cX12_owedAll 0 = .ok (.iconst 0, 1) := by decide +kernel
theorem dX12_owedAll_1 : decode cX12_owedAll 1 = .ok (.istore_n 1, 1) := by decide +kernel
theorem dX12_owedAll_2 : decode cX12_owedAll 2 = .ok (.iconst 0, 1) := by decide +kernel
theorem dX12_owedAll_3 : decode cX12_owedAll 3 = .ok (.istore_n 2, 1) := by decide +kernel
theorem dX12_owedAll_4 : decode cX12_owedAll 4 = .ok (.iload_n 2, 1) := by decide +kernel
theorem dX12_owedAll_5 : decode cX12_owedAll 5 = .ok (.bipush 16, 2) := by decide +kernel
theorem dX12_owedAll_7 : decode cX12_owedAll 7 = .ok (.if_icmp .ge 18, 3) := by decide +kernel
theorem dX12_owedAll_10 : decode cX12_owedAll 10 = .ok (.iload_n 1, 1) := by decide +kernel
theorem dX12_owedAll_11 : decode cX12_owedAll 11 = .ok (.aload_n 0, 1) := by decide +kernel
theorem dX12_owedAll_12 : decode cX12_owedAll 12 = .ok (.getfield 22, 3) := by decide +kernel
theorem dX12_owedAll_15 : decode cX12_owedAll 15 = .ok (.iload_n 2, 1) := by decide +kernel
theorem dX12_owedAll_16 : decode cX12_owedAll 16 = .ok (.iaload, 1) := by decide +kernel
theorem dX12_owedAll_17 : decode cX12_owedAll 17 = .ok (.iadd, 1) := by decide +kernel
theorem dX12_owedAll_18 : decode cX12_owedAll 18 = .ok (.istore_n 1, 1) := by decide +kernel
theorem dX12_owedAll_19 : decode cX12_owedAll 19 = .ok (.iinc 2 1, 3) := by decide +kernel
theorem dX12_owedAll_22 : decode cX12_owedAll 22 = .ok (.goto (-18), 3) := by decide +kernel
theorem dX12_owedAll_25 : decode cX12_owedAll 25 = .ok (.iload_n 1, 1) := by decide +kernel
theorem dX12_owedAll_26 : decode cX12_owedAll 26 = .ok (.ireturn, 1) := by decide +kernel
theorem dX12_cowsAll_0 : decode cX12_cowsAll 0 = .ok (.iconst 0, 1) := by decide +kernel
theorem dX12_cowsAll_1 : decode cX12_cowsAll 1 = .ok (.istore_n 1, 1) := by decide +kernel
theorem dX12_cowsAll_2 : decode cX12_cowsAll 2 = .ok (.iconst 0, 1) := by decide +kernel
theorem dX12_cowsAll_3 : decode cX12_cowsAll 3 = .ok (.istore_n 2, 1) := by decide +kernel
theorem dX12_cowsAll_4 : decode cX12_cowsAll 4 = .ok (.iload_n 2, 1) := by decide +kernel
theorem dX12_cowsAll_5 : decode cX12_cowsAll 5 = .ok (.aload_n 0, 1) := by decide +kernel
theorem dX12_cowsAll_6 : decode cX12_cowsAll 6 = .ok (.getfield 105, 3) := by decide +kernel
theorem dX12_cowsAll_9 : decode cX12_cowsAll 9 = .ok (.if_icmp .ge 18, 3) := by decide +kernel
theorem dX12_cowsAll_12 : decode cX12_cowsAll 12 = .ok (.iload_n 1, 1) := by decide +kernel
theorem dX12_cowsAll_13 : decode cX12_cowsAll 13 = .ok (.aload_n 0, 1) := by decide +kernel
theorem dX12_cowsAll_14 : decode cX12_cowsAll 14 = .ok (.getfield 19, 3) := by decide +kernel
theorem dX12_cowsAll_17 : decode cX12_cowsAll 17 = .ok (.iload_n 2, 1) := by decide +kernel
theorem dX12_cowsAll_18 : decode cX12_cowsAll 18 = .ok (.iaload, 1) := by decide +kernel
theorem dX12_cowsAll_19 : decode cX12_cowsAll 19 = .ok (.iadd, 1) := by decide +kernel
theorem dX12_cowsAll_20 : decode cX12_cowsAll 20 = .ok (.istore_n 1, 1) := by decide +kernel
theorem dX12_cowsAll_21 : decode cX12_cowsAll 21 = .ok (.iinc 2 1, 3) := by decide +kernel
theorem dX12_cowsAll_24 : decode cX12_cowsAll 24 = .ok (.goto (-20), 3) := by decide +kernel
theorem dX12_cowsAll_27 : decode cX12_cowsAll 27 = .ok (.iload_n 1, 1) := by decide +kernel
theorem dX12_cowsAll_28 : decode cX12_cowsAll 28 = .ok (.ireturn, 1) := by decide +kernel
set_option maxRecDepth 20000 in
theorem ggX12_clanOf_X12_in : GoodIn wsX12_clanOf wsX12_in := goodIn_r _ [10] (by decide +kernel) (by decide +kernel)
set_option maxRecDepth 20000 in
theorem gX12_clanOf_X12_in : GoodIn wsX12_clanOf (va_wsS RX12 73 yX12_in wsX12_in) := goodIn_app (goodIn_of _ (by decide +kernel)) ggX12_clanOf_X12_in
set_option maxRecDepth 20000 in
theorem ggX12_clanOf_X12_asksBy : GoodIn wsX12_clanOf wsX12_asksBy := goodIn_r _ [13] (by decide +kernel) (by decide +kernel)
set_option maxRecDepth 20000 in
theorem gX12_clanOf_X12_asksBy : GoodIn wsX12_clanOf (va_wsS RX12 140 yX12_asksBy wsX12_asksBy) := goodIn_app (goodIn_of _ (by decide +kernel)) ggX12_clanOf_X12_asksBy
set_option maxRecDepth 20000 in
theorem ggX12_clanOf_X12_spareOf : GoodIn wsX12_clanOf wsX12_spareOf := goodIn_r _ [17, 4, 5, 26, 27, 28, 29, 30, 31, 32, 33, 34, 35, 36, 37, 38, 39, 40, 41, 42, 43, 44, 45, 46, 47, 48, 49, 50, 51, 52, 53, 54, 55, 56, 57, 58, 59, 60, 61, 62, 63] (by decide +kernel) (by decide +kernel)
set_option maxRecDepth 20000 in
theorem gX12_clanOf_X12_spareOf : GoodIn wsX12_clanOf (wsV RX12 129 RX12 yX12_spareOf wsX12_spareOf) := goodIn_app (goodIn_of _ (by decide +kernel)) ggX12_clanOf_X12_spareOf
set_option maxRecDepth 20000 in
theorem ggX12_clanOf_X12_owesOf : GoodIn wsX12_clanOf wsX12_owesOf := goodIn_r _ [21, 3, 26, 27, 28, 29, 30, 31, 32, 33, 34, 35, 36, 37, 38, 39, 40, 41, 42, 43, 44, 45, 46, 47, 48, 49, 50, 51, 52, 53, 54, 55, 56, 57, 58, 59, 60, 61, 62, 63] (by decide +kernel) (by decide +kernel)
set_option maxRecDepth 20000 in
theorem gX12_clanOf_X12_owesOf : GoodIn wsX12_clanOf (wsV RX12 144 RX12 yX12_owesOf wsX12_owesOf) := goodIn_app (goodIn_of _ (by decide +kernel)) ggX12_clanOf_X12_owesOf
set_option maxRecDepth 20000 in
theorem ggX12_clanOf_X12_owedTo : GoodIn wsX12_clanOf wsX12_owedTo := goodIn_r _ [25, 3, 26, 27, 28, 29, 30, 31, 32, 33, 34, 35, 36, 37, 38, 39, 40, 41, 42, 43, 44, 45, 46, 47, 48, 49, 50, 51, 52, 53, 54, 55, 56, 57, 58, 59, 60, 61, 62, 63] (by decide +kernel) (by decide +kernel)
set_option maxRecDepth 20000 in
theorem gX12_clanOf_X12_owedTo : GoodIn wsX12_clanOf (wsV RX12 147 RX12 yX12_owedTo wsX12_owedTo) := goodIn_app (goodIn_of _ (by decide +kernel)) ggX12_clanOf_X12_owedTo
theorem dX12_clanOf_0 : decode cX12_clanOf 0 = .ok (.iload_n 2, 1) := by decide +kernel
theorem dX12_clanOf_1 : decode cX12_clanOf 1 = .ok (.i2l, 1) := by decide +kernel
theorem dX12_clanOf_2 : decode cX12_clanOf 2 = .ok (.ldc2_w 136, 3) := by decide +kernel
theorem dX12_clanOf_5 : decode cX12_clanOf 5 = .ok (.ldc2_w 138, 3) := by decide +kernel
theorem dX12_clanOf_8 : decode cX12_clanOf 8 = .ok (.invokestatic 73, 3) := by decide +kernel
theorem dX12_clanOf_11 : decode cX12_clanOf 11 = .ok (.ifCond .eq 17, 3) := by decide +kernel
theorem dX12_clanOf_14 : decode cX12_clanOf 14 = .ok (.aload_n 0, 1) := by decide +kernel
theorem dX12_clanOf_15 : decode cX12_clanOf 15 = .ok (.getfield 22, 3) := by decide +kernel
theorem dX12_clanOf_18 : decode cX12_clanOf 18 = .ok (.iconst 4, 1) := by decide +kernel
theorem dX12_clanOf_19 : decode cX12_clanOf 19 = .ok (.iload_n 1, 1) := by decide +kernel
theorem dX12_clanOf_20 : decode cX12_clanOf 20 = .ok (.imul, 1) := by decide +kernel
theorem dX12_clanOf_21 : decode cX12_clanOf 21 = .ok (.iload_n 2, 1) := by decide +kernel
theorem dX12_clanOf_22 : decode cX12_clanOf 22 = .ok (.iadd, 1) := by decide +kernel
theorem dX12_clanOf_23 : decode cX12_clanOf 23 = .ok (.bipush 10, 2) := by decide +kernel
theorem dX12_clanOf_25 : decode cX12_clanOf 25 = .ok (.isub, 1) := by decide +kernel
theorem dX12_clanOf_26 : decode cX12_clanOf 26 = .ok (.iaload, 1) := by decide +kernel
theorem dX12_clanOf_27 : decode cX12_clanOf 27 = .ok (.ireturn, 1) := by decide +kernel
theorem dX12_clanOf_28 : decode cX12_clanOf 28 = .ok (.iload_n 2, 1) := by decide +kernel
theorem dX12_clanOf_29 : decode cX12_clanOf 29 = .ok (.tableswitch 112 0 6 #[43, 50, 57, 71, 77, 83, 89], 43) := by decide +kernel
theorem dX12_clanOf_72 : decode cX12_clanOf 72 = .ok (.aload_n 0, 1) := by decide +kernel
theorem dX12_clanOf_73 : decode cX12_clanOf 73 = .ok (.getfield 16, 3) := by decide +kernel
theorem dX12_clanOf_76 : decode cX12_clanOf 76 = .ok (.iload_n 1, 1) := by decide +kernel
theorem dX12_clanOf_77 : decode cX12_clanOf 77 = .ok (.iaload, 1) := by decide +kernel
theorem dX12_clanOf_78 : decode cX12_clanOf 78 = .ok (.ireturn, 1) := by decide +kernel
theorem dX12_clanOf_79 : decode cX12_clanOf 79 = .ok (.aload_n 0, 1) := by decide +kernel
theorem dX12_clanOf_80 : decode cX12_clanOf 80 = .ok (.getfield 19, 3) := by decide +kernel
theorem dX12_clanOf_83 : decode cX12_clanOf 83 = .ok (.iload_n 1, 1) := by decide +kernel
theorem dX12_clanOf_84 : decode cX12_clanOf 84 = .ok (.iaload, 1) := by decide +kernel
theorem dX12_clanOf_85 : decode cX12_clanOf 85 = .ok (.ireturn, 1) := by decide +kernel
theorem dX12_clanOf_86 : decode cX12_clanOf 86 = .ok (.aload_n 0, 1) := by decide +kernel
theorem dX12_clanOf_87 : decode cX12_clanOf 87 = .ok (.getfield 16, 3) := by decide +kernel
theorem dX12_clanOf_90 : decode cX12_clanOf 90 = .ok (.iload_n 1, 1) := by decide +kernel
theorem dX12_clanOf_91 : decode cX12_clanOf 91 = .ok (.iaload, 1) := by decide +kernel
theorem dX12_clanOf_92 : decode cX12_clanOf 92 = .ok (.aload_n 0, 1) := by decide +kernel
theorem dX12_clanOf_93 : decode cX12_clanOf 93 = .ok (.getfield 108, 3) := by decide +kernel
theorem dX12_clanOf_96 : decode cX12_clanOf 96 = .ok (.invokestatic 140, 3) := by decide +kernel
theorem dX12_clanOf_99 : decode cX12_clanOf 99 = .ok (.ireturn, 1) := by decide +kernel
theorem dX12_clanOf_100 : decode cX12_clanOf 100 = .ok (.aload_n 0, 1) := by decide +kernel
theorem dX12_clanOf_101 : decode cX12_clanOf 101 = .ok (.iload_n 1, 1) := by decide +kernel
theorem dX12_clanOf_102 : decode cX12_clanOf 102 = .ok (.invokevirtual 129, 3) := by decide +kernel
theorem dX12_clanOf_105 : decode cX12_clanOf 105 = .ok (.ireturn, 1) := by decide +kernel
theorem dX12_clanOf_106 : decode cX12_clanOf 106 = .ok (.aload_n 0, 1) := by decide +kernel
theorem dX12_clanOf_107 : decode cX12_clanOf 107 = .ok (.iload_n 1, 1) := by decide +kernel
theorem dX12_clanOf_108 : decode cX12_clanOf 108 = .ok (.invokevirtual 144, 3) := by decide +kernel
theorem dX12_clanOf_111 : decode cX12_clanOf 111 = .ok (.ireturn, 1) := by decide +kernel
theorem dX12_clanOf_112 : decode cX12_clanOf 112 = .ok (.aload_n 0, 1) := by decide +kernel
theorem dX12_clanOf_113 : decode cX12_clanOf 113 = .ok (.iload_n 1, 1) := by decide +kernel
theorem dX12_clanOf_114 : decode cX12_clanOf 114 = .ok (.invokevirtual 147, 3) := by decide +kernel
theorem dX12_clanOf_117 : decode cX12_clanOf 117 = .ok (.ireturn, 1) := by decide +kernel
theorem dX12_clanOf_118 : decode cX12_clanOf 118 = .ok (.sipush 1000, 3) := by decide +kernel
theorem dX12_clanOf_121 : decode cX12_clanOf 121 = .ok (.aload_n 0, 1) := by decide +kernel
theorem dX12_clanOf_122 : decode cX12_clanOf 122 = .ok (.getfield 19, 3) := by decide +kernel
theorem dX12_clanOf_125 : decode cX12_clanOf 125 = .ok (.iload_n 1, 1) := by decide +kernel
theorem dX12_clanOf_126 : decode cX12_clanOf 126 = .ok (.iaload, 1) := by decide +kernel
theorem dX12_clanOf_127 : decode cX12_clanOf 127 = .ok (.iadd, 1) := by decide +kernel
theorem dX12_clanOf_128 : decode cX12_clanOf 128 = .ok (.aload_n 0, 1) := by decide +kernel
theorem dX12_clanOf_129 : decode cX12_clanOf 129 = .ok (.iload_n 1, 1) := by decide +kernel
theorem dX12_clanOf_130 : decode cX12_clanOf 130 = .ok (.invokevirtual 147, 3) := by decide +kernel
theorem dX12_clanOf_133 : decode cX12_clanOf 133 = .ok (.iadd, 1) := by decide +kernel
theorem dX12_clanOf_134 : decode cX12_clanOf 134 = .ok (.aload_n 0, 1) := by decide +kernel
theorem dX12_clanOf_135 : decode cX12_clanOf 135 = .ok (.iload_n 1, 1) := by decide +kernel
theorem dX12_clanOf_136 : decode cX12_clanOf 136 = .ok (.invokevirtual 144, 3) := by decide +kernel
theorem dX12_clanOf_139 : decode cX12_clanOf 139 = .ok (.isub, 1) := by decide +kernel
theorem dX12_clanOf_140 : decode cX12_clanOf 140 = .ok (.ireturn, 1) := by decide +kernel
theorem dX12_clanOf_141 : decode cX12_clanOf 141 = .ok (.bipush (-102), 2) := by decide +kernel
theorem dX12_clanOf_143 : decode cX12_clanOf 143 = .ok (.ireturn, 1) := by decide +kernel
set_option maxRecDepth 20000 in
theorem ggX12_clan_X12_isClan : GoodIn wsX12_clan wsX12_isClan := goodIn_r _ [5, 6, 7, 8, 4, 9, 35, 36, 37, 38, 39, 40, 41, 42, 43, 44, 45, 46, 47, 48, 49, 50, 51, 52, 53, 54, 55, 56, 57, 58, 59, 60, 61, 62, 63, 64, 65, 66, 67, 68, 69, 70, 71, 72] (by decide +kernel) (by decide +kernel)
set_option maxRecDepth 20000 in
theorem gX12_clan_X12_isClan : GoodIn wsX12_clan (wsV RX12 126 RX12 yX12_isClan wsX12_isClan) := goodIn_app (goodIn_of _ (by decide +kernel)) ggX12_clan_X12_isClan
set_option maxRecDepth 20000 in
theorem ggX12_clan_X12_clanOf : GoodIn wsX12_clan wsX12_clanOf := goodIn_r _ [13, 14, 15, 16, 17, 18, 19, 7, 8, 4, 9, 20, 21, 22, 23, 24, 25, 26, 27, 28, 29, 30, 31, 32, 33, 34, 35, 36, 37, 38, 39, 40, 41, 42, 43, 44, 45, 46, 47, 48, 49, 50, 51, 52, 53, 54, 55, 56, 57, 58, 59, 60, 61, 62, 63, 64, 65, 66, 67, 68, 69, 70, 71, 72] (by decide +kernel) (by decide +kernel)
set_option maxRecDepth 20000 in
theorem gX12_clan_X12_clanOf : GoodIn wsX12_clan (wsV RX12 150 RX12 yX12_clanOf wsX12_clanOf) := goodIn_app (goodIn_of _ (by decide +kernel)) ggX12_clan_X12_clanOf
theorem dX12_clan_0 : decode cX12_clan 0 = .ok (.aload_n 0, 1) := by decide +kernel
theorem dX12_clan_1 : decode cX12_clan 1 = .ok (.iload_n 1, 1) := by decide +kernel
theorem dX12_clan_2 : decode cX12_clan 2 = .ok (.invokevirtual 126, 3) := by decide +kernel
theorem dX12_clan_5 : decode cX12_clan 5 = .ok (.ifCond .eq 12, 3) := by decide +kernel
theorem dX12_clan_8 : decode cX12_clan 8 = .ok (.aload_n 0, 1) := by decide +kernel
theorem dX12_clan_9 : decode cX12_clan 9 = .ok (.iload_n 1, 1) := by decide +kernel
theorem dX12_clan_10 : decode cX12_clan 10 = .ok (.iload_n 2, 1) := by decide +kernel
theorem dX12_clan_11 : decode cX12_clan 11 = .ok (.invokevirtual 150, 3) := by decide +kernel
theorem dX12_clan_14 : decode cX12_clan 14 = .ok (.goto 5, 3) := by decide +kernel
theorem dX12_clan_17 : decode cX12_clan 17 = .ok (.bipush (-101), 2) := by decide +kernel
theorem dX12_clan_19 : decode cX12_clan 19 = .ok (.ireturn, 1) := by decide +kernel
set_option maxRecDepth 20000 in
theorem ggX12_as_X12_isClan : GoodIn wsX12_as wsX12_isClan := goodIn_r _ [7, 8, 9, 10, 6, 11, 12, 13, 14, 15, 16, 17, 18, 19, 20, 21, 22, 23, 24, 25, 26, 27, 28, 29, 30, 31, 32, 33, 34, 35, 36, 37, 38, 39, 40, 41, 42, 43, 44, 45, 46, 47, 48, 49] (by decide +kernel) (by decide +kernel)
set_option maxRecDepth 20000 in
theorem gX12_as_X12_isClan : GoodIn wsX12_as (wsV RX12 126 RX12 yX12_isClan wsX12_isClan) := goodIn_app (goodIn_of _ (by decide +kernel)) ggX12_as_X12_isClan
set_option maxRecDepth 20000 in
theorem ggX12_as_X12_in : GoodIn wsX12_as wsX12_in := goodIn_r _ [11] (by decide +kernel) (by decide +kernel)
set_option maxRecDepth 20000 in
theorem gX12_as_X12_in : GoodIn wsX12_as (va_wsS RX12 73 yX12_in wsX12_in) := goodIn_app (goodIn_of _ (by decide +kernel)) ggX12_as_X12_in
theorem dX12_as_0 : decode cX12_as 0 = .ok (.aload_n 0, 1) := by decide +kernel
theorem dX12_as_1 : decode cX12_as 1 = .ok (.iload_n 1, 1) := by decide +kernel
theorem dX12_as_2 : decode cX12_as 2 = .ok (.invokevirtual 126, 3) := by decide +kernel
theorem dX12_as_5 : decode cX12_as 5 = .ok (.ifCond .ne 6, 3) := by decide +kernel
theorem dX12_as_8 : decode cX12_as 8 = .ok (.bipush (-101), 2) := by decide +kernel
theorem dX12_as_10 : decode cX12_as 10 = .ok (.ireturn, 1) := by decide +kernel
theorem dX12_as_11 : decode cX12_as 11 = .ok (.iload_n 2, 1) := by decide +kernel
theorem dX12_as_12 : decode cX12_as 12 = .ok (.i2l, 1) := by decide +kernel
theorem dX12_as_13 : decode cX12_as 13 = .ok (.lconst 0, 1) := by decide +kernel
theorem dX12_as_14 : decode cX12_as 14 = .ok (.ldc2_w 153, 3) := by decide +kernel
theorem dX12_as_17 : decode cX12_as 17 = .ok (.invokestatic 73, 3) := by decide +kernel
theorem dX12_as_20 : decode cX12_as 20 = .ok (.ifCond .ne 6, 3) := by decide +kernel
theorem dX12_as_23 : decode cX12_as 23 = .ok (.bipush (-102), 2) := by decide +kernel
theorem dX12_as_25 : decode cX12_as 25 = .ok (.ireturn, 1) := by decide +kernel
theorem dX12_as_26 : decode cX12_as 26 = .ok (.iload_n 2, 1) := by decide +kernel
theorem dX12_as_27 : decode cX12_as 27 = .ok (.ifCond .eq 28, 3) := by decide +kernel
theorem dX12_as_30 : decode cX12_as 30 = .ok (.iload_n 2, 1) := by decide +kernel
theorem dX12_as_31 : decode cX12_as 31 = .ok (.aload_n 0, 1) := by decide +kernel
theorem dX12_as_32 : decode cX12_as 32 = .ok (.getfield 16, 3) := by decide +kernel
theorem dX12_as_35 : decode cX12_as 35 = .ok (.iload_n 1, 1) := by decide +kernel
theorem dX12_as_36 : decode cX12_as 36 = .ok (.iaload, 1) := by decide +kernel
theorem dX12_as_37 : decode cX12_as 37 = .ok (.if_icmp .eq 18, 3) := by decide +kernel
theorem dX12_as_40 : decode cX12_as 40 = .ok (.iload_n 2, 1) := by decide +kernel
theorem dX12_as_41 : decode cX12_as 41 = .ok (.iconst 1, 1) := by decide +kernel
theorem dX12_as_42 : decode cX12_as 42 = .ok (.if_icmp .ne 17, 3) := by decide +kernel
theorem dX12_as_45 : decode cX12_as 45 = .ok (.aload_n 0, 1) := by decide +kernel
theorem dX12_as_46 : decode cX12_as 46 = .ok (.getfield 16, 3) := by decide +kernel
theorem dX12_as_49 : decode cX12_as 49 = .ok (.iload_n 1, 1) := by decide +kernel
theorem dX12_as_50 : decode cX12_as 50 = .ok (.iaload, 1) := by decide +kernel
theorem dX12_as_51 : decode cX12_as 51 = .ok (.iconst 4, 1) := by decide +kernel
theorem dX12_as_52 : decode cX12_as 52 = .ok (.if_icmp .ne 7, 3) := by decide +kernel
theorem dX12_as_55 : decode cX12_as 55 = .ok (.iconst 1, 1) := by decide +kernel
theorem dX12_as_56 : decode cX12_as 56 = .ok (.goto 4, 3) := by decide +kernel
theorem dX12_as_59 : decode cX12_as 59 = .ok (.iconst 0, 1) := by decide +kernel
theorem dX12_as_60 : decode cX12_as 60 = .ok (.istore_n 3, 1) := by decide +kernel
theorem dX12_as_61 : decode cX12_as 61 = .ok (.iload_n 3, 1) := by decide +kernel
theorem dX12_as_62 : decode cX12_as 62 = .ok (.ifCond .eq 7, 3) := by decide +kernel
theorem dX12_as_65 : decode cX12_as 65 = .ok (.iload_n 1, 1) := by decide +kernel
theorem dX12_as_66 : decode cX12_as 66 = .ok (.goto 4, 3) := by decide +kernel
theorem dX12_as_69 : decode cX12_as 69 = .ok (.iconst (-1), 1) := by decide +kernel
theorem dX12_as_70 : decode cX12_as 70 = .ok (.ireturn, 1) := by decide +kernel
set_option maxRecDepth 20000 in
theorem ggX12_rate_X12_in : GoodIn wsX12_rate wsX12_in := goodIn_r _ [6] (by decide +kernel) (by decide +kernel)
set_option maxRecDepth 20000 in
theorem gX12_rate_X12_in : GoodIn wsX12_rate (va_wsS RX12 73 yX12_in wsX12_in) := goodIn_app (goodIn_of _ (by decide +kernel)) ggX12_rate_X12_in
set_option maxRecDepth 20000 in
theorem ggX12_rate_X12_lacks : GoodIn wsX12_rate wsX12_lacks := goodIn_r _ [10, 11, 12, 13, 14, 15, 16, 17, 18, 19, 20, 21, 22, 23, 24, 25, 26, 27, 28, 29, 30, 31, 32, 33, 34, 35, 36, 37, 38, 39, 40, 41, 42, 43, 44, 45, 46, 47, 48, 49] (by decide +kernel) (by decide +kernel)
set_option maxRecDepth 20000 in
theorem gX12_rate_X12_lacks : GoodIn wsX12_rate (wsV RX12 155 RX12 yX12_lacks wsX12_lacks) := goodIn_app (goodIn_of _ (by decide +kernel)) ggX12_rate_X12_lacks
theorem dX12_rate_0 : decode cX12_rate 0 = .ok (.iload_n 1, 1) := by decide +kernel
theorem dX12_rate_1 : decode cX12_rate 1 = .ok (.i2l, 1) := by decide +kernel
theorem dX12_rate_2 : decode cX12_rate 2 = .ok (.lconst 1, 1) := by decide +kernel
theorem dX12_rate_3 : decode cX12_rate 3 = .ok (.ldc2_w 90, 3) := by decide +kernel
theorem dX12_rate_6 : decode cX12_rate 6 = .ok (.invokestatic 73, 3) := by decide +kernel
theorem dX12_rate_9 : decode cX12_rate 9 = .ok (.ifCond .ne 6, 3) := by decide +kernel
theorem dX12_rate_12 : decode cX12_rate 12 = .ok (.bipush (-102), 2) := by decide +kernel
theorem dX12_rate_14 : decode cX12_rate 14 = .ok (.ireturn, 1) := by decide +kernel
theorem dX12_rate_15 : decode cX12_rate 15 = .ok (.aload_n 0, 1) := by decide +kernel
theorem dX12_rate_16 : decode cX12_rate 16 = .ok (.invokevirtual 155, 3) := by decide +kernel
theorem dX12_rate_19 : decode cX12_rate 19 = .ok (.ifCond .eq 6, 3) := by decide +kernel
theorem dX12_rate_22 : decode cX12_rate 22 = .ok (.bipush (-103), 2) := by decide +kernel
theorem dX12_rate_24 : decode cX12_rate 24 = .ok (.ireturn, 1) := by decide +kernel
theorem dX12_rate_25 : decode cX12_rate 25 = .ok (.aload_n 0, 1) := by decide +kernel
theorem dX12_rate_26 : decode cX12_rate 26 = .ok (.getfield 108, 3) := by decide +kernel
theorem dX12_rate_29 : decode cX12_rate 29 = .ok (.istore_n 2, 1) := by decide +kernel
theorem dX12_rate_30 : decode cX12_rate 30 = .ok (.aload_n 0, 1) := by decide +kernel
theorem dX12_rate_31 : decode cX12_rate 31 = .ok (.iload_n 1, 1) := by decide +kernel
theorem dX12_rate_32 : decode cX12_rate 32 = .ok (.putfield 108, 3) := by decide +kernel
theorem dX12_rate_35 : decode cX12_rate 35 = .ok (.iload_n 2, 1) := by decide +kernel
theorem dX12_rate_36 : decode cX12_rate 36 = .ok (.ireturn, 1) := by decide +kernel
set_option maxRecDepth 20000 in
theorem ggX12_marry_X12_asksBy : GoodIn wsX12_marry wsX12_asksBy := goodIn_r _ [5] (by decide +kernel) (by decide +kernel)
set_option maxRecDepth 20000 in
theorem gX12_marry_X12_asksBy : GoodIn wsX12_marry (va_wsS RX12 140 yX12_asksBy wsX12_asksBy) := goodIn_app (goodIn_of _ (by decide +kernel)) ggX12_marry_X12_asksBy
set_option maxRecDepth 20000 in
theorem ggX12_marry_X12_pays : GoodIn wsX12_marry wsX12_pays := goodIn_r _ [9, 10, 11, 12, 13, 4, 14, 15, 16, 17, 18, 19, 1, 20, 21, 22, 23, 24, 25, 26, 27, 28, 29, 30, 31, 32, 33, 34, 35, 36, 37, 38, 39, 40, 41, 42, 43, 44, 45, 46, 47, 48, 49, 50, 51, 52, 53, 54, 55, 56, 57] (by decide +kernel) (by decide +kernel)
set_option maxRecDepth 20000 in
theorem gX12_marry_X12_pays : GoodIn wsX12_marry (wsV RX12 159 RX12 yX12_pays wsX12_pays) := goodIn_app (goodIn_of _ (by decide +kernel)) ggX12_marry_X12_pays
theorem dX12_marry_0 : decode cX12_marry 0 = .ok (.aload_n 0, 1) := by decide +kernel
theorem dX12_marry_1 : decode cX12_marry 1 = .ok (.iload_n 1, 1) := by decide +kernel
theorem dX12_marry_2 : decode cX12_marry 2 = .ok (.iload_n 2, 1) := by decide +kernel
theorem dX12_marry_3 : decode cX12_marry 3 = .ok (.aload_n 0, 1) := by decide +kernel
theorem dX12_marry_4 : decode cX12_marry 4 = .ok (.getfield 16, 3) := by decide +kernel
theorem dX12_marry_7 : decode cX12_marry 7 = .ok (.iload_n 2, 1) := by decide +kernel
theorem dX12_marry_8 : decode cX12_marry 8 = .ok (.iaload, 1) := by decide +kernel
theorem dX12_marry_9 : decode cX12_marry 9 = .ok (.iload_n 3, 1) := by decide +kernel
theorem dX12_marry_10 : decode cX12_marry 10 = .ok (.invokestatic 140, 3) := by decide +kernel
theorem dX12_marry_13 : decode cX12_marry 13 = .ok (.invokevirtual 159, 3) := by decide +kernel
theorem dX12_marry_16 : decode cX12_marry 16 = .ok (.ireturn, 1) := by decide +kernel
set_option maxRecDepth 20000 in
theorem ggX12_wed_X12_areTwo : GoodIn wsX12_wed wsX12_areTwo := goodIn_r _ [9, 10, 11, 12, 8, 13, 14, 15, 16, 17, 39, 40, 41, 42, 43, 44, 45, 46, 47, 48, 49, 50, 51, 52, 53, 54, 55, 56, 57, 58, 59, 60, 61, 62, 63, 64, 65, 66, 67, 68, 69, 70, 71, 72, 73, 74, 75, 76] (by decide +kernel) (by decide +kernel)
set_option maxRecDepth 20000 in
theorem gX12_wed_X12_areTwo : GoodIn wsX12_wed (wsV RX12 162 RX12 yX12_areTwo wsX12_areTwo) := goodIn_app (goodIn_of _ (by decide +kernel)) ggX12_wed_X12_areTwo
set_option maxRecDepth 20000 in
theorem ggX12_wed_X12_asksBy : GoodIn wsX12_wed wsX12_asksBy := goodIn_r _ [20] (by decide +kernel) (by decide +kernel)
set_option maxRecDepth 20000 in
theorem gX12_wed_X12_asksBy : GoodIn wsX12_wed (va_wsS RX12 140 yX12_asksBy wsX12_asksBy) := goodIn_app (goodIn_of _ (by decide +kernel)) ggX12_wed_X12_asksBy
set_option maxRecDepth 20000 in
theorem ggX12_wed_X12_marry : GoodIn wsX12_wed wsX12_marry := goodIn_r _ [24, 3, 18, 19, 8, 20, 25, 26, 27, 28, 29, 30, 31, 32, 33, 34, 35, 36, 37, 38, 39, 40, 41, 42, 43, 44, 45, 46, 47, 48, 49, 50, 51, 52, 53, 54, 55, 56, 57, 58, 59, 60, 61, 62, 63, 64, 65, 66, 67, 68, 69, 70, 71, 72, 73, 74, 75, 76] (by decide +kernel) (by decide +kernel)
set_option maxRecDepth 20000 in
theorem gX12_wed_X12_marry : GoodIn wsX12_wed (wsV RX12 166 RX12 yX12_marry wsX12_marry) := goodIn_app (goodIn_of _ (by decide +kernel)) ggX12_wed_X12_marry
theorem dX12_wed_0 : decode cX12_wed 0 = .ok (.aload_n 0, 1) := by decide +kernel
theorem dX12_wed_1 : decode cX12_wed 1 = .ok (.iload_n 1, 1) := by decide +kernel
theorem dX12_wed_2 : decode cX12_wed 2 = .ok (.iload_n 2, 1) := by decide +kernel
theorem dX12_wed_3 : decode cX12_wed 3 = .ok (.invokevirtual 162, 3) := by decide +kernel
theorem dX12_wed_6 : decode cX12_wed 6 = .ok (.ifCond .ne 6, 3) := by decide +kernel
theorem dX12_wed_9 : decode cX12_wed 9 = .ok (.bipush (-101), 2) := by decide +kernel
theorem dX12_wed_11 : decode cX12_wed 11 = .ok (.ireturn, 1) := by decide +kernel
theorem dX12_wed_12 : decode cX12_wed 12 = .ok (.aload_n 0, 1) := by decide +kernel
theorem dX12_wed_13 : decode cX12_wed 13 = .ok (.getfield 114, 3) := by decide +kernel
theorem dX12_wed_16 : decode cX12_wed 16 = .ok (.bipush 12, 2) := by decide +kernel
theorem dX12_wed_18 : decode cX12_wed 18 = .ok (.if_icmp .ne 6, 3) := by decide +kernel
theorem dX12_wed_21 : decode cX12_wed 21 = .ok (.bipush (-104), 2) := by decide +kernel
theorem dX12_wed_23 : decode cX12_wed 23 = .ok (.ireturn, 1) := by decide +kernel
theorem dX12_wed_24 : decode cX12_wed 24 = .ok (.aload_n 0, 1) := by decide +kernel
theorem dX12_wed_25 : decode cX12_wed 25 = .ok (.getfield 25, 3) := by decide +kernel
theorem dX12_wed_28 : decode cX12_wed 28 = .ok (.iconst 4, 1) := by decide +kernel
theorem dX12_wed_29 : decode cX12_wed 29 = .ok (.aload_n 0, 1) := by decide +kernel
theorem dX12_wed_30 : decode cX12_wed 30 = .ok (.getfield 114, 3) := by decide +kernel
theorem dX12_wed_33 : decode cX12_wed 33 = .ok (.imul, 1) := by decide +kernel
theorem dX12_wed_34 : decode cX12_wed 34 = .ok (.iload_n 1, 1) := by decide +kernel
theorem dX12_wed_35 : decode cX12_wed 35 = .ok (.iastore, 1) := by decide +kernel
theorem dX12_wed_36 : decode cX12_wed 36 = .ok (.aload_n 0, 1) := by decide +kernel
theorem dX12_wed_37 : decode cX12_wed 37 = .ok (.getfield 25, 3) := by decide +kernel
theorem dX12_wed_40 : decode cX12_wed 40 = .ok (.iconst 4, 1) := by decide +kernel
theorem dX12_wed_41 : decode cX12_wed 41 = .ok (.aload_n 0, 1) := by decide +kernel
theorem dX12_wed_42 : decode cX12_wed 42 = .ok (.getfield 114, 3) := by decide +kernel
theorem dX12_wed_45 : decode cX12_wed 45 = .ok (.imul, 1) := by decide +kernel
theorem dX12_wed_46 : decode cX12_wed 46 = .ok (.iconst 1, 1) := by decide +kernel
theorem dX12_wed_47 : decode cX12_wed 47 = .ok (.iadd, 1) := by decide +kernel
theorem dX12_wed_48 : decode cX12_wed 48 = .ok (.iload_n 2, 1) := by decide +kernel
theorem dX12_wed_49 : decode cX12_wed 49 = .ok (.iastore, 1) := by decide +kernel
theorem dX12_wed_50 : decode cX12_wed 50 = .ok (.aload_n 0, 1) := by decide +kernel
theorem dX12_wed_51 : decode cX12_wed 51 = .ok (.getfield 25, 3) := by decide +kernel
theorem dX12_wed_54 : decode cX12_wed 54 = .ok (.iconst 4, 1) := by decide +kernel
theorem dX12_wed_55 : decode cX12_wed 55 = .ok (.aload_n 0, 1) := by decide +kernel
theorem dX12_wed_56 : decode cX12_wed 56 = .ok (.getfield 114, 3) := by decide +kernel
theorem dX12_wed_59 : decode cX12_wed 59 = .ok (.imul, 1) := by decide +kernel
theorem dX12_wed_60 : decode cX12_wed 60 = .ok (.iconst 2, 1) := by decide +kernel
theorem dX12_wed_61 : decode cX12_wed 61 = .ok (.iadd, 1) := by decide +kernel
theorem dX12_wed_62 : decode cX12_wed 62 = .ok (.aload_n 0, 1) := by decide +kernel
theorem dX12_wed_63 : decode cX12_wed 63 = .ok (.getfield 16, 3) := by decide +kernel
theorem dX12_wed_66 : decode cX12_wed 66 = .ok (.iload_n 2, 1) := by decide +kernel
theorem dX12_wed_67 : decode cX12_wed 67 = .ok (.iaload, 1) := by decide +kernel
theorem dX12_wed_68 : decode cX12_wed 68 = .ok (.aload_n 0, 1) := by decide +kernel
theorem dX12_wed_69 : decode cX12_wed 69 = .ok (.getfield 108, 3) := by decide +kernel
theorem dX12_wed_72 : decode cX12_wed 72 = .ok (.invokestatic 140, 3) := by decide +kernel
theorem dX12_wed_75 : decode cX12_wed 75 = .ok (.iastore, 1) := by decide +kernel
theorem dX12_wed_76 : decode cX12_wed 76 = .ok (.aload_n 0, 1) := by decide +kernel
theorem dX12_wed_77 : decode cX12_wed 77 = .ok (.getfield 25, 3) := by decide +kernel
theorem dX12_wed_80 : decode cX12_wed 80 = .ok (.iconst 4, 1) := by decide +kernel
theorem dX12_wed_81 : decode cX12_wed 81 = .ok (.aload_n 0, 1) := by decide +kernel
theorem dX12_wed_82 : decode cX12_wed 82 = .ok (.getfield 114, 3) := by decide +kernel
theorem dX12_wed_85 : decode cX12_wed 85 = .ok (.imul, 1) := by decide +kernel
theorem dX12_wed_86 : decode cX12_wed 86 = .ok (.iconst 3, 1) := by decide +kernel
theorem dX12_wed_87 : decode cX12_wed 87 = .ok (.iadd, 1) := by decide +kernel
theorem dX12_wed_88 : decode cX12_wed 88 = .ok (.iconst 0, 1) := by decide +kernel
theorem dX12_wed_89 : decode cX12_wed 89 = .ok (.iastore, 1) := by decide +kernel
theorem dX12_wed_90 : decode cX12_wed 90 = .ok (.aload_n 0, 1) := by decide +kernel
theorem dX12_wed_91 : decode cX12_wed 91 = .ok (.dup, 1) := by decide +kernel
theorem dX12_wed_92 : decode cX12_wed 92 = .ok (.getfield 114, 3) := by decide +kernel
theorem dX12_wed_95 : decode cX12_wed 95 = .ok (.iconst 1, 1) := by decide +kernel
theorem dX12_wed_96 : decode cX12_wed 96 = .ok (.iadd, 1) := by decide +kernel
theorem dX12_wed_97 : decode cX12_wed 97 = .ok (.putfield 114, 3) := by decide +kernel
theorem dX12_wed_100 : decode cX12_wed 100 = .ok (.aload_n 0, 1) := by decide +kernel
theorem dX12_wed_101 : decode cX12_wed 101 = .ok (.iload_n 1, 1) := by decide +kernel
theorem dX12_wed_102 : decode cX12_wed 102 = .ok (.iload_n 2, 1) := by decide +kernel
theorem dX12_wed_103 : decode cX12_wed 103 = .ok (.aload_n 0, 1) := by decide +kernel
theorem dX12_wed_104 : decode cX12_wed 104 = .ok (.getfield 108, 3) := by decide +kernel
theorem dX12_wed_107 : decode cX12_wed 107 = .ok (.invokevirtual 166, 3) := by decide +kernel
theorem dX12_wed_110 : decode cX12_wed 110 = .ok (.istore_n 3, 1) := by decide +kernel
theorem dX12_wed_111 : decode cX12_wed 111 = .ok (.aload_n 0, 1) := by decide +kernel
theorem dX12_wed_112 : decode cX12_wed 112 = .ok (.getfield 114, 3) := by decide +kernel
theorem dX12_wed_115 : decode cX12_wed 115 = .ok (.iconst 1, 1) := by decide +kernel
theorem dX12_wed_116 : decode cX12_wed 116 = .ok (.isub, 1) := by decide +kernel
theorem dX12_wed_117 : decode cX12_wed 117 = .ok (.ireturn, 1) := by decide +kernel
set_option maxRecDepth 20000 in
theorem ggX12_wedding_X12_in : GoodIn wsX12_wedding wsX12_in := goodIn_r _ [7] (by decide +kernel) (by decide +kernel)
set_option maxRecDepth 20000 in
theorem gX12_wedding_X12_in : GoodIn wsX12_wedding (va_wsS RX12 73 yX12_in wsX12_in) := goodIn_app (goodIn_of _ (by decide +kernel)) ggX12_wedding_X12_in
theorem dX12_wedding_0 : decode cX12_wedding 0 = .ok (.iload_n 1, 1) := by decide +kernel
theorem dX12_wedding_1 : decode cX12_wedding 1 = .ok (.i2l, 1) := by decide +kernel
theorem dX12_wedding_2 : decode cX12_wedding 2 = .ok (.lconst 0, 1) := by decide +kernel
theorem dX12_wedding_3 : decode cX12_wedding 3 = .ok (.aload_n 0, 1) := by decide +kernel
theorem dX12_wedding_4 : decode cX12_wedding 4 = .ok (.getfield 114, 3) := by decide +kernel
theorem dX12_wedding_7 : decode cX12_wedding 7 = .ok (.iconst 1, 1) := by decide +kernel
theorem dX12_wedding_8 : decode cX12_wedding 8 = .ok (.isub, 1) := by decide +kernel
theorem dX12_wedding_9 : decode cX12_wedding 9 = .ok (.i2l, 1) := by decide +kernel
theorem dX12_wedding_10 : decode cX12_wedding 10 = .ok (.invokestatic 73, 3) := by decide +kernel
theorem dX12_wedding_13 : decode cX12_wedding 13 = .ok (.ifCond .ne 6, 3) := by decide +kernel
theorem dX12_wedding_16 : decode cX12_wedding 16 = .ok (.bipush (-101), 2) := by decide +kernel
theorem dX12_wedding_18 : decode cX12_wedding 18 = .ok (.ireturn, 1) := by decide +kernel
theorem dX12_wedding_19 : decode cX12_wedding 19 = .ok (.iload_n 2, 1) := by decide +kernel
theorem dX12_wedding_20 : decode cX12_wedding 20 = .ok (.i2l, 1) := by decide +kernel
theorem dX12_wedding_21 : decode cX12_wedding 21 = .ok (.lconst 0, 1) := by decide +kernel
theorem dX12_wedding_22 : decode cX12_wedding 22 = .ok (.ldc2_w 169, 3) := by decide +kernel
theorem dX12_wedding_25 : decode cX12_wedding 25 = .ok (.invokestatic 73, 3) := by decide +kernel
theorem dX12_wedding_28 : decode cX12_wedding 28 = .ok (.ifCond .eq 16, 3) := by decide +kernel
theorem dX12_wedding_31 : decode cX12_wedding 31 = .ok (.aload_n 0, 1) := by decide +kernel
theorem dX12_wedding_32 : decode cX12_wedding 32 = .ok (.getfield 25, 3) := by decide +kernel
theorem dX12_wedding_35 : decode cX12_wedding 35 = .ok (.iconst 4, 1) := by decide +kernel
theorem dX12_wedding_36 : decode cX12_wedding 36 = .ok (.iload_n 1, 1) := by decide +kernel
theorem dX12_wedding_37 : decode cX12_wedding 37 = .ok (.imul, 1) := by decide +kernel
theorem dX12_wedding_38 : decode cX12_wedding 38 = .ok (.iload_n 2, 1) := by decide +kernel
theorem dX12_wedding_39 : decode cX12_wedding 39 = .ok (.iadd, 1) := by decide +kernel
theorem dX12_wedding_40 : decode cX12_wedding 40 = .ok (.iaload, 1) := by decide +kernel
theorem dX12_wedding_41 : decode cX12_wedding 41 = .ok (.goto 5, 3) := by decide +kernel
theorem dX12_wedding_44 : decode cX12_wedding 44 = .ok (.bipush (-102), 2) := by decide +kernel
theorem dX12_wedding_46 : decode cX12_wedding 46 = .ok (.ireturn, 1) := by decide +kernel
set_option maxRecDepth 20000 in
theorem ggX12_divorce_X12_in : GoodIn wsX12_divorce wsX12_in := goodIn_r _ [6] (by decide +kernel) (by decide +kernel)
set_option maxRecDepth 20000 in
theorem gX12_divorce_X12_in : GoodIn wsX12_divorce (va_wsS RX12 73 yX12_in wsX12_in) := goodIn_app (goodIn_of _ (by decide +kernel)) ggX12_divorce_X12_in
set_option maxRecDepth 20000 in
theorem ggX12_divorce_X12_pays : GoodIn wsX12_divorce wsX12_pays := goodIn_r _ [10, 11, 12, 13, 14, 5, 15, 16, 17, 18, 19, 20, 21, 22, 23, 24, 25, 26, 27, 28, 29, 30, 31, 32, 33, 34, 35, 36, 37, 38, 39, 40, 41, 42, 43, 44, 45, 46, 47, 48, 49, 50, 51, 52, 53, 54, 55, 56, 57, 58, 59] (by decide +kernel) (by decide +kernel)
set_option maxRecDepth 20000 in
theorem gX12_divorce_X12_pays : GoodIn wsX12_divorce (wsV RX12 159 RX12 yX12_pays wsX12_pays) := goodIn_app (goodIn_of _ (by decide +kernel)) ggX12_divorce_X12_pays
theorem dX12_divorce_0 : decode cX12_divorce 0 = .ok (.iload_n 1, 1) := by decide +kernel
theorem dX12_divorce_1 : decode cX12_divorce 1 = .ok (.i2l, 1) := by decide +kernel
theorem dX12_divorce_2 : decode cX12_divorce 2 = .ok (.lconst 0, 1) := by decide +kernel
theorem dX12_divorce_3 : decode cX12_divorce 3 = .ok (.aload_n 0, 1) := by decide +kernel
theorem dX12_divorce_4 : decode cX12_divorce 4 = .ok (.getfield 114, 3) := by decide +kernel
theorem dX12_divorce_7 : decode cX12_divorce 7 = .ok (.iconst 1, 1) := by decide +kernel
theorem dX12_divorce_8 : decode cX12_divorce 8 = .ok (.isub, 1) := by decide +kernel
theorem dX12_divorce_9 : decode cX12_divorce 9 = .ok (.i2l, 1) := by decide +kernel
theorem dX12_divorce_10 : decode cX12_divorce 10 = .ok (.invokestatic 73, 3) := by decide +kernel
theorem dX12_divorce_13 : decode cX12_divorce 13 = .ok (.ifCond .ne 6, 3) := by decide +kernel
theorem dX12_divorce_16 : decode cX12_divorce 16 = .ok (.bipush (-101), 2) := by decide +kernel
theorem dX12_divorce_18 : decode cX12_divorce 18 = .ok (.ireturn, 1) := by decide +kernel
theorem dX12_divorce_19 : decode cX12_divorce 19 = .ok (.aload_n 0, 1) := by decide +kernel
theorem dX12_divorce_20 : decode cX12_divorce 20 = .ok (.getfield 25, 3) := by decide +kernel
theorem dX12_divorce_23 : decode cX12_divorce 23 = .ok (.iconst 4, 1) := by decide +kernel
theorem dX12_divorce_24 : decode cX12_divorce 24 = .ok (.iload_n 1, 1) := by decide +kernel
theorem dX12_divorce_25 : decode cX12_divorce 25 = .ok (.imul, 1) := by decide +kernel
theorem dX12_divorce_26 : decode cX12_divorce 26 = .ok (.iconst 3, 1) := by decide +kernel
theorem dX12_divorce_27 : decode cX12_divorce 27 = .ok (.iadd, 1) := by decide +kernel
theorem dX12_divorce_28 : decode cX12_divorce 28 = .ok (.iaload, 1) := by decide +kernel
theorem dX12_divorce_29 : decode cX12_divorce 29 = .ok (.iconst 1, 1) := by decide +kernel
theorem dX12_divorce_30 : decode cX12_divorce 30 = .ok (.if_icmp .ne 6, 3) := by decide +kernel
theorem dX12_divorce_33 : decode cX12_divorce 33 = .ok (.bipush (-103), 2) := by decide +kernel
theorem dX12_divorce_35 : decode cX12_divorce 35 = .ok (.ireturn, 1) := by decide +kernel
theorem dX12_divorce_36 : decode cX12_divorce 36 = .ok (.aload_n 0, 1) := by decide +kernel
theorem dX12_divorce_37 : decode cX12_divorce 37 = .ok (.getfield 25, 3) := by decide +kernel
theorem dX12_divorce_40 : decode cX12_divorce 40 = .ok (.iconst 4, 1) := by decide +kernel
theorem dX12_divorce_41 : decode cX12_divorce 41 = .ok (.iload_n 1, 1) := by decide +kernel
theorem dX12_divorce_42 : decode cX12_divorce 42 = .ok (.imul, 1) := by decide +kernel
theorem dX12_divorce_43 : decode cX12_divorce 43 = .ok (.iconst 3, 1) := by decide +kernel
theorem dX12_divorce_44 : decode cX12_divorce 44 = .ok (.iadd, 1) := by decide +kernel
theorem dX12_divorce_45 : decode cX12_divorce 45 = .ok (.iconst 1, 1) := by decide +kernel
theorem dX12_divorce_46 : decode cX12_divorce 46 = .ok (.iastore, 1) := by decide +kernel
theorem dX12_divorce_47 : decode cX12_divorce 47 = .ok (.aload_n 0, 1) := by decide +kernel
theorem dX12_divorce_48 : decode cX12_divorce 48 = .ok (.aload_n 0, 1) := by decide +kernel
theorem dX12_divorce_49 : decode cX12_divorce 49 = .ok (.getfield 25, 3) := by decide +kernel
theorem dX12_divorce_52 : decode cX12_divorce 52 = .ok (.iconst 4, 1) := by decide +kernel
theorem dX12_divorce_53 : decode cX12_divorce 53 = .ok (.iload_n 1, 1) := by decide +kernel
theorem dX12_divorce_54 : decode cX12_divorce 54 = .ok (.imul, 1) := by decide +kernel
theorem dX12_divorce_55 : decode cX12_divorce 55 = .ok (.iconst 1, 1) := by decide +kernel
theorem dX12_divorce_56 : decode cX12_divorce 56 = .ok (.iadd, 1) := by decide +kernel
theorem dX12_divorce_57 : decode cX12_divorce 57 = .ok (.iaload, 1) := by decide +kernel
theorem dX12_divorce_58 : decode cX12_divorce 58 = .ok (.aload_n 0, 1) := by decide +kernel
theorem dX12_divorce_59 : decode cX12_divorce 59 = .ok (.getfield 25, 3) := by decide +kernel
theorem dX12_divorce_62 : decode cX12_divorce 62 = .ok (.iconst 4, 1) := by decide +kernel
theorem dX12_divorce_63 : decode cX12_divorce 63 = .ok (.iload_n 1, 1) := by decide +kernel
theorem dX12_divorce_64 : decode cX12_divorce 64 = .ok (.imul, 1) := by decide +kernel
theorem dX12_divorce_65 : decode cX12_divorce 65 = .ok (.iaload, 1) := by decide +kernel
theorem dX12_divorce_66 : decode cX12_divorce 66 = .ok (.aload_n 0, 1) := by decide +kernel
theorem dX12_divorce_67 : decode cX12_divorce 67 = .ok (.getfield 25, 3) := by decide +kernel
theorem dX12_divorce_70 : decode cX12_divorce 70 = .ok (.iconst 4, 1) := by decide +kernel
theorem dX12_divorce_71 : decode cX12_divorce 71 = .ok (.iload_n 1, 1) := by decide +kernel
theorem dX12_divorce_72 : decode cX12_divorce 72 = .ok (.imul, 1) := by decide +kernel
theorem dX12_divorce_73 : decode cX12_divorce 73 = .ok (.iconst 2, 1) := by decide +kernel
theorem dX12_divorce_74 : decode cX12_divorce 74 = .ok (.iadd, 1) := by decide +kernel
theorem dX12_divorce_75 : decode cX12_divorce 75 = .ok (.iaload, 1) := by decide +kernel
theorem dX12_divorce_76 : decode cX12_divorce 76 = .ok (.invokevirtual 159, 3) := by decide +kernel
theorem dX12_divorce_79 : decode cX12_divorce 79 = .ok (.ireturn, 1) := by decide +kernel
set_option maxRecDepth 20000 in
theorem ggX12_passYear_X12_isClan : GoodIn wsX12_passYear wsX12_isClan := goodIn_r _ [8, 1, 9, 10, 7, 11, 21, 22, 23, 24, 25, 26, 27, 28, 29, 30, 31, 32, 33, 34, 35, 36, 37, 38, 39, 40, 41, 42, 43, 44, 45, 46, 47, 48, 49, 50, 51, 52, 53, 54, 55, 56, 57, 58] (by decide +kernel) (by decide +kernel)
set_option maxRecDepth 20000 in
theorem gX12_passYear_X12_isClan : GoodIn wsX12_passYear (wsV RX12 126 RX12 yX12_isClan wsX12_isClan) := goodIn_app (goodIn_of _ (by decide +kernel)) ggX12_passYear_X12_isClan
set_option maxRecDepth 20000 in
theorem ggX12_passYear_X12_paysNow : GoodIn wsX12_passYear wsX12_paysNow := goodIn_r _ [15, 2, 16, 17, 18, 7, 19, 20, 21, 22, 23, 24, 25, 26, 27, 28, 29, 30, 31, 32, 33, 34, 35, 36, 37, 38, 39, 40, 41, 42, 43, 44, 45, 46, 47, 48, 49, 50, 51, 52, 53, 54, 55, 56, 57, 58] (by decide +kernel) (by decide +kernel)
set_option maxRecDepth 20000 in
theorem gX12_passYear_X12_paysNow : GoodIn wsX12_passYear (wsV RX12 132 RX12 yX12_paysNow wsX12_paysNow) := goodIn_app (goodIn_of _ (by decide +kernel)) ggX12_passYear_X12_paysNow
theorem dX12_passYear_0 : decode cX12_passYear 0 = .ok (.iconst 0, 1) := by decide +kernel
theorem dX12_passYear_1 : decode cX12_passYear 1 = .ok (.istore_n 1, 1) := by decide +kernel
theorem dX12_passYear_2 : decode cX12_passYear 2 = .ok (.iload_n 1, 1) := by decide +kernel
theorem dX12_passYear_3 : decode cX12_passYear 3 = .ok (.aload_n 0, 1) := by decide +kernel
theorem dX12_passYear_4 : decode cX12_passYear 4 = .ok (.getfield 105, 3) := by decide +kernel
theorem dX12_passYear_7 : decode cX12_passYear 7 = .ok (.if_icmp .ge 63, 3) := by decide +kernel
theorem dX12_passYear_10 : decode cX12_passYear 10 = .ok (.aload_n 0, 1) := by decide +kernel
theorem dX12_passYear_11 : decode cX12_passYear 11 = .ok (.getfield 19, 3) := by decide +kernel
theorem dX12_passYear_14 : decode cX12_passYear 14 = .ok (.iload_n 1, 1) := by decide +kernel
theorem dX12_passYear_15 : decode cX12_passYear 15 = .ok (.iaload, 1) := by decide +kernel
theorem dX12_passYear_16 : decode cX12_passYear 16 = .ok (.aload_n 0, 1) := by decide +kernel
theorem dX12_passYear_17 : decode cX12_passYear 17 = .ok (.getfield 19, 3) := by decide +kernel
theorem dX12_passYear_20 : decode cX12_passYear 20 = .ok (.iload_n 1, 1) := by decide +kernel
theorem dX12_passYear_21 : decode cX12_passYear 21 = .ok (.iaload, 1) := by decide +kernel
theorem dX12_passYear_22 : decode cX12_passYear 22 = .ok (.iconst 2, 1) := by decide +kernel
theorem dX12_passYear_23 : decode cX12_passYear 23 = .ok (.idiv, 1) := by decide +kernel
theorem dX12_passYear_24 : decode cX12_passYear 24 = .ok (.iadd, 1) := by decide +kernel
theorem dX12_passYear_25 : decode cX12_passYear 25 = .ok (.istore_n 2, 1) := by decide +kernel
theorem dX12_passYear_26 : decode cX12_passYear 26 = .ok (.aload_n 0, 1) := by decide +kernel
theorem dX12_passYear_27 : decode cX12_passYear 27 = .ok (.getfield 19, 3) := by decide +kernel
theorem dX12_passYear_30 : decode cX12_passYear 30 = .ok (.iload_n 1, 1) := by decide +kernel
theorem dX12_passYear_31 : decode cX12_passYear 31 = .ok (.aload_n 0, 1) := by decide +kernel
theorem dX12_passYear_32 : decode cX12_passYear 32 = .ok (.getfield 19, 3) := by decide +kernel
theorem dX12_passYear_35 : decode cX12_passYear 35 = .ok (.iload_n 1, 1) := by decide +kernel
theorem dX12_passYear_36 : decode cX12_passYear 36 = .ok (.iaload, 1) := by decide +kernel
theorem dX12_passYear_37 : decode cX12_passYear 37 = .ok (.bipush 99, 2) := by decide +kernel
theorem dX12_passYear_39 : decode cX12_passYear 39 = .ok (.if_icmp .le 12, 3) := by decide +kernel
theorem dX12_passYear_42 : decode cX12_passYear 42 = .ok (.aload_n 0, 1) := by decide +kernel
theorem dX12_passYear_43 : decode cX12_passYear 43 = .ok (.getfield 19, 3) := by decide +kernel
theorem dX12_passYear_46 : decode cX12_passYear 46 = .ok (.iload_n 1, 1) := by decide +kernel
theorem dX12_passYear_47 : decode cX12_passYear 47 = .ok (.iaload, 1) := by decide +kernel
theorem dX12_passYear_48 : decode cX12_passYear 48 = .ok (.goto 15, 3) := by decide +kernel
theorem dX12_passYear_51 : decode cX12_passYear 51 = .ok (.iload_n 2, 1) := by decide +kernel
theorem dX12_passYear_52 : decode cX12_passYear 52 = .ok (.bipush 99, 2) := by decide +kernel
theorem dX12_passYear_54 : decode cX12_passYear 54 = .ok (.if_icmp .le 8, 3) := by decide +kernel
theorem dX12_passYear_57 : decode cX12_passYear 57 = .ok (.bipush 99, 2) := by decide +kernel
theorem dX12_passYear_59 : decode cX12_passYear 59 = .ok (.goto 4, 3) := by decide +kernel
theorem dX12_passYear_62 : decode cX12_passYear 62 = .ok (.iload_n 2, 1) := by decide +kernel
theorem dX12_passYear_63 : decode cX12_passYear 63 = .ok (.iastore, 1) := by decide +kernel
theorem dX12_passYear_64 : decode cX12_passYear 64 = .ok (.iinc 1 1, 3) := by decide +kernel
theorem dX12_passYear_67 : decode cX12_passYear 67 = .ok (.goto (-65), 3) := by decide +kernel
theorem dX12_passYear_70 : decode cX12_passYear 70 = .ok (.iconst 0, 1) := by decide +kernel
theorem dX12_passYear_71 : decode cX12_passYear 71 = .ok (.istore_n 1, 1) := by decide +kernel
theorem dX12_passYear_72 : decode cX12_passYear 72 = .ok (.iload_n 1, 1) := by decide +kernel
theorem dX12_passYear_73 : decode cX12_passYear 73 = .ok (.bipush 16, 2) := by decide +kernel
theorem dX12_passYear_75 : decode cX12_passYear 75 = .ok (.if_icmp .ge 59, 3) := by decide +kernel
theorem dX12_passYear_78 : decode cX12_passYear 78 = .ok (.iload_n 1, 1) := by decide +kernel
theorem dX12_passYear_79 : decode cX12_passYear 79 = .ok (.iconst 4, 1) := by decide +kernel
theorem dX12_passYear_80 : decode cX12_passYear 80 = .ok (.idiv, 1) := by decide +kernel
theorem dX12_passYear_81 : decode cX12_passYear 81 = .ok (.istore_n 2, 1) := by decide +kernel
theorem dX12_passYear_82 : decode cX12_passYear 82 = .ok (.iload_n 1, 1) := by decide +kernel
theorem dX12_passYear_83 : decode cX12_passYear 83 = .ok (.iconst 4, 1) := by decide +kernel
theorem dX12_passYear_84 : decode cX12_passYear 84 = .ok (.irem, 1) := by decide +kernel
theorem dX12_passYear_85 : decode cX12_passYear 85 = .ok (.istore_n 3, 1) := by decide +kernel
theorem dX12_passYear_86 : decode cX12_passYear 86 = .ok (.iload_n 2, 1) := by decide +kernel
theorem dX12_passYear_87 : decode cX12_passYear 87 = .ok (.iload_n 3, 1) := by decide +kernel
theorem dX12_passYear_88 : decode cX12_passYear 88 = .ok (.if_icmp .eq 40, 3) := by decide +kernel
theorem dX12_passYear_91 : decode cX12_passYear 91 = .ok (.aload_n 0, 1) := by decide +kernel
theorem dX12_passYear_92 : decode cX12_passYear 92 = .ok (.iload_n 2, 1) := by decide +kernel
theorem dX12_passYear_93 : decode cX12_passYear 93 = .ok (.invokevirtual 126, 3) := by decide +kernel
theorem dX12_passYear_96 : decode cX12_passYear 96 = .ok (.ifCond .eq 32, 3) := by decide +kernel
theorem dX12_passYear_99 : decode cX12_passYear 99 = .ok (.aload_n 0, 1) := by decide +kernel
theorem dX12_passYear_100 : decode cX12_passYear 100 = .ok (.iload_n 3, 1) := by decide +kernel
theorem dX12_passYear_101 : decode cX12_passYear 101 = .ok (.invokevirtual 126, 3) := by decide +kernel
theorem dX12_passYear_104 : decode cX12_passYear 104 = .ok (.ifCond .eq 24, 3) := by decide +kernel
theorem dX12_passYear_107 : decode cX12_passYear 107 = .ok (.aload_n 0, 1) := by decide +kernel
theorem dX12_passYear_108 : decode cX12_passYear 108 = .ok (.getfield 22, 3) := by decide +kernel
theorem dX12_passYear_111 : decode cX12_passYear 111 = .ok (.iload_n 1, 1) := by decide +kernel
theorem dX12_passYear_112 : decode cX12_passYear 112 = .ok (.dup2, 1) := by decide +kernel
theorem dX12_passYear_113 : decode cX12_passYear 113 = .ok (.iaload, 1) := by decide +kernel
theorem dX12_passYear_114 : decode cX12_passYear 114 = .ok (.aload_n 0, 1) := by decide +kernel
theorem dX12_passYear_115 : decode cX12_passYear 115 = .ok (.iload_n 2, 1) := by decide +kernel
theorem dX12_passYear_116 : decode cX12_passYear 116 = .ok (.iload_n 3, 1) := by decide +kernel
theorem dX12_passYear_117 : decode cX12_passYear 117 = .ok (.aload_n 0, 1) := by decide +kernel
theorem dX12_passYear_118 : decode cX12_passYear 118 = .ok (.getfield 22, 3) := by decide +kernel
theorem dX12_passYear_121 : decode cX12_passYear 121 = .ok (.iload_n 1, 1) := by decide +kernel
theorem dX12_passYear_122 : decode cX12_passYear 122 = .ok (.iaload, 1) := by decide +kernel
theorem dX12_passYear_123 : decode cX12_passYear 123 = .ok (.invokevirtual 132, 3) := by decide +kernel
theorem dX12_passYear_126 : decode cX12_passYear 126 = .ok (.isub, 1) := by decide +kernel
theorem dX12_passYear_127 : decode cX12_passYear 127 = .ok (.iastore, 1) := by decide +kernel
theorem dX12_passYear_128 : decode cX12_passYear 128 = .ok (.iinc 1 1, 3) := by decide +kernel
theorem dX12_passYear_131 : decode cX12_passYear 131 = .ok (.goto (-59), 3) := by decide +kernel
theorem dX12_passYear_134 : decode cX12_passYear 134 = .ok (.return_, 1) := by decide +kernel
set_option maxRecDepth 20000 in
theorem ggX12_year_X12_lacks : GoodIn wsX12_year wsX12_lacks := goodIn_r _ [6, 7, 34, 35, 36, 37, 38, 39, 40, 41, 42, 43, 44, 45, 46, 47, 48, 49, 50, 51, 52, 53, 54, 55, 56, 57, 58, 59, 60, 61, 62, 63, 64, 65, 66, 67, 68, 69, 70, 71] (by decide +kernel) (by decide +kernel)
set_option maxRecDepth 20000 in
theorem gX12_year_X12_lacks : GoodIn wsX12_year (wsV RX12 155 RX12 yX12_lacks wsX12_lacks) := goodIn_app (goodIn_of _ (by decide +kernel)) ggX12_year_X12_lacks
set_option maxRecDepth 20000 in
theorem ggX12_year_X12_passYear : GoodIn wsX12_year wsX12_passYear := goodIn_r _ [11, 7, 12, 13, 14, 15, 16, 5, 17, 18, 19, 20, 21, 22, 23, 24, 25, 26, 27, 28, 29, 34, 35, 36, 37, 38, 39, 40, 41, 42, 43, 44, 45, 46, 47, 48, 49, 50, 51, 52, 53, 54, 55, 56, 57, 58, 59, 60, 61, 62, 63, 64, 65, 66, 67, 68, 69, 70, 71] (by decide +kernel) (by decide +kernel)
set_option maxRecDepth 20000 in
theorem gX12_year_X12_passYear : GoodIn wsX12_year (wsV RX12 171 RX12 yX12_passYear wsX12_passYear) := goodIn_app (goodIn_of _ (by decide +kernel)) ggX12_year_X12_passYear
set_option maxRecDepth 20000 in
theorem ggX12_year_X12_owedAll : GoodIn wsX12_year wsX12_owedAll := goodIn_r _ [33, 13, 34, 35, 36, 37, 38, 39, 40, 41, 42, 43, 44, 45, 46, 47, 48, 49, 50, 51, 52, 53, 54, 55, 56, 57, 58, 59, 60, 61, 62, 63, 64, 65, 66, 67, 68, 69, 70, 71] (by decide +kernel) (by decide +kernel)
set_option maxRecDepth 20000 in
theorem gX12_year_X12_owedAll : GoodIn wsX12_year (wsV RX12 174 RX12 yX12_owedAll wsX12_owedAll) := goodIn_app (goodIn_of _ (by decide +kernel)) ggX12_year_X12_owedAll
theorem dX12_year_0 : decode cX12_year 0 = .ok (.aload_n 0, 1) := by decide +kernel
theorem dX12_year_1 : decode cX12_year 1 = .ok (.invokevirtual 155, 3) := by decide +kernel
theorem dX12_year_4 : decode cX12_year 4 = .ok (.ifCond .eq 6, 3) := by decide +kernel
theorem dX12_year_7 : decode cX12_year 7 = .ok (.bipush (-103), 2) := by decide +kernel
theorem dX12_year_9 : decode cX12_year 9 = .ok (.ireturn, 1) := by decide +kernel
theorem dX12_year_10 : decode cX12_year 10 = .ok (.aload_n 0, 1) := by decide +kernel
theorem dX12_year_11 : decode cX12_year 11 = .ok (.invokevirtual 171, 3) := by decide +kernel
theorem dX12_year_14 : decode cX12_year 14 = .ok (.aload_n 0, 1) := by decide +kernel
theorem dX12_year_15 : decode cX12_year 15 = .ok (.dup, 1) := by decide +kernel
theorem dX12_year_16 : decode cX12_year 16 = .ok (.getfield 111, 3) := by decide +kernel
theorem dX12_year_19 : decode cX12_year 19 = .ok (.iconst 1, 1) := by decide +kernel
theorem dX12_year_20 : decode cX12_year 20 = .ok (.iadd, 1) := by decide +kernel
theorem dX12_year_21 : decode cX12_year 21 = .ok (.putfield 111, 3) := by decide +kernel
theorem dX12_year_24 : decode cX12_year 24 = .ok (.aload_n 0, 1) := by decide +kernel
theorem dX12_year_25 : decode cX12_year 25 = .ok (.invokevirtual 174, 3) := by decide +kernel
theorem dX12_year_28 : decode cX12_year 28 = .ok (.ireturn, 1) := by decide +kernel
set_option maxRecDepth 20000 in
theorem ggX12_settledOf_X12_owedTo : GoodIn wsX12_settledOf wsX12_owedTo := goodIn_r _ [6, 7, 12, 13, 14, 15, 16, 17, 18, 19, 20, 21, 22, 23, 24, 25, 26, 27, 28, 29, 30, 31, 32, 33, 34, 35, 36, 37, 38, 39, 40, 41, 42, 43, 44, 45, 46, 47, 48, 49] (by decide +kernel) (by decide +kernel)
set_option maxRecDepth 20000 in
theorem gX12_settledOf_X12_owedTo : GoodIn wsX12_settledOf (wsV RX12 147 RX12 yX12_owedTo wsX12_owedTo) := goodIn_app (goodIn_of _ (by decide +kernel)) ggX12_settledOf_X12_owedTo
set_option maxRecDepth 20000 in
theorem ggX12_settledOf_X12_owesOf : GoodIn wsX12_settledOf wsX12_owesOf := goodIn_r _ [11, 7, 12, 13, 14, 15, 16, 17, 18, 19, 20, 21, 22, 23, 24, 25, 26, 27, 28, 29, 30, 31, 32, 33, 34, 35, 36, 37, 38, 39, 40, 41, 42, 43, 44, 45, 46, 47, 48, 49] (by decide +kernel) (by decide +kernel)
set_option maxRecDepth 20000 in
theorem gX12_settledOf_X12_owesOf : GoodIn wsX12_settledOf (wsV RX12 144 RX12 yX12_owesOf wsX12_owesOf) := goodIn_app (goodIn_of _ (by decide +kernel)) ggX12_settledOf_X12_owesOf
theorem dX12_settledOf_0 : decode cX12_settledOf 0 = .ok (.iconst 0, 1) := by decide +kernel
theorem dX12_settledOf_1 : decode cX12_settledOf 1 = .ok (.istore_n 1, 1) := by decide +kernel
theorem dX12_settledOf_2 : decode cX12_settledOf 2 = .ok (.iconst 0, 1) := by decide +kernel
theorem dX12_settledOf_3 : decode cX12_settledOf 3 = .ok (.istore_n 2, 1) := by decide +kernel
theorem dX12_settledOf_4 : decode cX12_settledOf 4 = .ok (.iload_n 2, 1) := by decide +kernel
theorem dX12_settledOf_5 : decode cX12_settledOf 5 = .ok (.aload_n 0, 1) := by decide +kernel
theorem dX12_settledOf_6 : decode cX12_settledOf 6 = .ok (.getfield 105, 3) := by decide +kernel
theorem dX12_settledOf_9 : decode cX12_settledOf 9 = .ok (.if_icmp .ge 33, 3) := by decide +kernel
theorem dX12_settledOf_12 : decode cX12_settledOf 12 = .ok (.aload_n 0, 1) := by decide +kernel
theorem dX12_settledOf_13 : decode cX12_settledOf 13 = .ok (.iload_n 2, 1) := by decide +kernel
theorem dX12_settledOf_14 : decode cX12_settledOf 14 = .ok (.invokevirtual 147, 3) := by decide +kernel
theorem dX12_settledOf_17 : decode cX12_settledOf 17 = .ok (.aload_n 0, 1) := by decide +kernel
theorem dX12_settledOf_18 : decode cX12_settledOf 18 = .ok (.iload_n 2, 1) := by decide +kernel
theorem dX12_settledOf_19 : decode cX12_settledOf 19 = .ok (.invokevirtual 144, 3) := by decide +kernel
theorem dX12_settledOf_22 : decode cX12_settledOf 22 = .ok (.isub, 1) := by decide +kernel
theorem dX12_settledOf_23 : decode cX12_settledOf 23 = .ok (.istore_n 3, 1) := by decide +kernel
theorem dX12_settledOf_24 : decode cX12_settledOf 24 = .ok (.iload_n 1, 1) := by decide +kernel
theorem dX12_settledOf_25 : decode cX12_settledOf 25 = .ok (.iload_n 3, 1) := by decide +kernel
theorem dX12_settledOf_26 : decode cX12_settledOf 26 = .ok (.ifCond .le 7, 3) := by decide +kernel
theorem dX12_settledOf_29 : decode cX12_settledOf 29 = .ok (.iload_n 3, 1) := by decide +kernel
theorem dX12_settledOf_30 : decode cX12_settledOf 30 = .ok (.goto 4, 3) := by decide +kernel
theorem dX12_settledOf_33 : decode cX12_settledOf 33 = .ok (.iconst 0, 1) := by decide +kernel
theorem dX12_settledOf_34 : decode cX12_settledOf 34 = .ok (.iadd, 1) := by decide +kernel
theorem dX12_settledOf_35 : decode cX12_settledOf 35 = .ok (.istore_n 1, 1) := by decide +kernel
theorem dX12_settledOf_36 : decode cX12_settledOf 36 = .ok (.iinc 2 1, 3) := by decide +kernel
theorem dX12_settledOf_39 : decode cX12_settledOf 39 = .ok (.goto (-35), 3) := by decide +kernel
theorem dX12_settledOf_42 : decode cX12_settledOf 42 = .ok (.iload_n 1, 1) := by decide +kernel
theorem dX12_settledOf_43 : decode cX12_settledOf 43 = .ok (.ireturn, 1) := by decide +kernel
set_option maxRecDepth 20000 in
theorem ggX12_settled_X12_lacks : GoodIn wsX12_settled wsX12_lacks := goodIn_r _ [5, 6, 20, 21, 22, 23, 24, 25, 26, 27, 28, 29, 30, 31, 32, 33, 34, 35, 36, 37, 38, 39, 40, 41, 42, 43, 44, 45, 46, 47, 48, 49, 50, 51, 52, 53, 54, 55, 56, 57] (by decide +kernel) (by decide +kernel)
set_option maxRecDepth 20000 in
theorem gX12_settled_X12_lacks : GoodIn wsX12_settled (wsV RX12 155 RX12 yX12_lacks wsX12_lacks) := goodIn_app (goodIn_of _ (by decide +kernel)) ggX12_settled_X12_lacks
set_option maxRecDepth 20000 in
theorem ggX12_settled_X12_settledOf : GoodIn wsX12_settled wsX12_settledOf := goodIn_r _ [10, 6, 11, 12, 13, 4, 14, 15, 16, 17, 18, 19, 20, 21, 22, 23, 24, 25, 26, 27, 28, 29, 30, 31, 32, 33, 34, 35, 36, 37, 38, 39, 40, 41, 42, 43, 44, 45, 46, 47, 48, 49, 50, 51, 52, 53, 54, 55, 56, 57] (by decide +kernel) (by decide +kernel)
set_option maxRecDepth 20000 in
theorem gX12_settled_X12_settledOf : GoodIn wsX12_settled (wsV RX12 177 RX12 yX12_settledOf wsX12_settledOf) := goodIn_app (goodIn_of _ (by decide +kernel)) ggX12_settled_X12_settledOf
theorem dX12_settled_0 : decode cX12_settled 0 = .ok (.aload_n 0, 1) := by decide +kernel
theorem dX12_settled_1 : decode cX12_settled 1 = .ok (.invokevirtual 155, 3) := by decide +kernel
theorem dX12_settled_4 : decode cX12_settled 4 = .ok (.ifCond .eq 8, 3) := by decide +kernel
theorem dX12_settled_7 : decode cX12_settled 7 = .ok (.bipush (-103), 2) := by decide +kernel
theorem dX12_settled_9 : decode cX12_settled 9 = .ok (.goto 7, 3) := by decide +kernel
theorem dX12_settled_12 : decode cX12_settled 12 = .ok (.aload_n 0, 1) := by decide +kernel
theorem dX12_settled_13 : decode cX12_settled 13 = .ok (.invokevirtual 177, 3) := by decide +kernel
theorem dX12_settled_16 : decode cX12_settled 16 = .ok (.ireturn, 1) := by decide +kernel
set_option maxRecDepth 20000 in
theorem ggX12_layAside_X12_copy : GoodIn wsX12_layAside wsX12_copy := goodIn_r _ [8] (by decide +kernel) (by decide +kernel)
set_option maxRecDepth 20000 in
theorem gX12_layAside_X12_copy : GoodIn wsX12_layAside (va_wsS RX12 180 yX12_copy wsX12_copy) := goodIn_app (goodIn_of _ (by decide +kernel)) ggX12_layAside_X12_copy
theorem dX12_layAside_0 : decode cX12_layAside 0 = .ok (.aload_n 0, 1) := by decide +kernel
theorem dX12_layAside_1 : decode cX12_layAside 1 = .ok (.getfield 19, 3) := by decide +kernel
theorem dX12_layAside_4 : decode cX12_layAside 4 = .ok (.aload_n 0, 1) := by decide +kernel
theorem dX12_layAside_5 : decode cX12_layAside 5 = .ok (.getfield 31, 3) := by decide +kernel
theorem dX12_layAside_8 : decode cX12_layAside 8 = .ok (.invokestatic 180, 3) := by decide +kernel
theorem dX12_layAside_11 : decode cX12_layAside 11 = .ok (.aload_n 0, 1) := by decide +kernel
theorem dX12_layAside_12 : decode cX12_layAside 12 = .ok (.getfield 22, 3) := by decide +kernel
theorem dX12_layAside_15 : decode cX12_layAside 15 = .ok (.aload_n 0, 1) := by decide +kernel
theorem dX12_layAside_16 : decode cX12_layAside 16 = .ok (.getfield 34, 3) := by decide +kernel
theorem dX12_layAside_19 : decode cX12_layAside 19 = .ok (.invokestatic 180, 3) := by decide +kernel
theorem dX12_layAside_22 : decode cX12_layAside 22 = .ok (.return_, 1) := by decide +kernel
set_option maxRecDepth 20000 in
theorem ggX12_layBack_X12_copy : GoodIn wsX12_layBack wsX12_copy := goodIn_r _ [8] (by decide +kernel) (by decide +kernel)
set_option maxRecDepth 20000 in
theorem gX12_layBack_X12_copy : GoodIn wsX12_layBack (va_wsS RX12 180 yX12_copy wsX12_copy) := goodIn_app (goodIn_of _ (by decide +kernel)) ggX12_layBack_X12_copy
theorem dX12_layBack_0 : decode cX12_layBack 0 = .ok (.aload_n 0, 1) := by decide +kernel
theorem dX12_layBack_1 : decode cX12_layBack 1 = .ok (.getfield 31, 3) := by decide +kernel
theorem dX12_layBack_4 : decode cX12_layBack 4 = .ok (.aload_n 0, 1) := by decide +kernel
theorem dX12_layBack_5 : decode cX12_layBack 5 = .ok (.getfield 19, 3) := by decide +kernel
theorem dX12_layBack_8 : decode cX12_layBack 8 = .ok (.invokestatic 180, 3) := by decide +kernel
theorem dX12_layBack_11 : decode cX12_layBack 11 = .ok (.aload_n 0, 1) := by decide +kernel
theorem dX12_layBack_12 : decode cX12_layBack 12 = .ok (.getfield 34, 3) := by decide +kernel
theorem dX12_layBack_15 : decode cX12_layBack 15 = .ok (.aload_n 0, 1) := by decide +kernel
theorem dX12_layBack_16 : decode cX12_layBack 16 = .ok (.getfield 22, 3) := by decide +kernel
theorem dX12_layBack_19 : decode cX12_layBack 19 = .ok (.invokestatic 180, 3) := by decide +kernel
theorem dX12_layBack_22 : decode cX12_layBack 22 = .ok (.return_, 1) := by decide +kernel
set_option maxRecDepth 20000 in
theorem ggX12_plan_X12_areTwo : GoodIn wsX12_plan wsX12_areTwo := goodIn_r _ [7, 8, 9, 10, 6, 11, 12, 13, 14, 15, 16, 17, 18, 19, 20, 21, 22, 23, 24, 25, 26, 27, 28, 29, 30, 31, 32, 33, 34, 35, 36, 37, 38, 39, 40, 41, 42, 43, 44, 45, 46, 47, 48, 49, 50, 51, 52, 53] (by decide +kernel) (by decide +kernel)
set_option maxRecDepth 20000 in
theorem gX12_plan_X12_areTwo : GoodIn wsX12_plan (wsV RX12 162 RX12 yX12_areTwo wsX12_areTwo) := goodIn_app (goodIn_of _ (by decide +kernel)) ggX12_plan_X12_areTwo
theorem dX12_plan_0 : decode cX12_plan 0 = .ok (.aload_n 0, 1) := by decide +kernel
theorem dX12_plan_1 : decode cX12_plan 1 = .ok (.iload_n 1, 1) := by decide +kernel
theorem dX12_plan_2 : decode cX12_plan 2 = .ok (.iload_n 2, 1) := by decide +kernel
theorem dX12_plan_3 : decode cX12_plan 3 = .ok (.invokevirtual 162, 3) := by decide +kernel
theorem dX12_plan_6 : decode cX12_plan 6 = .ok (.ifCond .ne 6, 3) := by decide +kernel
theorem dX12_plan_9 : decode cX12_plan 9 = .ok (.bipush (-101), 2) := by decide +kernel
theorem dX12_plan_11 : decode cX12_plan 11 = .ok (.ireturn, 1) := by decide +kernel
theorem dX12_plan_12 : decode cX12_plan 12 = .ok (.aload_n 0, 1) := by decide +kernel
theorem dX12_plan_13 : decode cX12_plan 13 = .ok (.getfield 117, 3) := by decide +kernel
theorem dX12_plan_16 : decode cX12_plan 16 = .ok (.iconst 4, 1) := by decide +kernel
theorem dX12_plan_17 : decode cX12_plan 17 = .ok (.if_icmp .ne 6, 3) := by decide +kernel
theorem dX12_plan_20 : decode cX12_plan 20 = .ok (.bipush (-104), 2) := by decide +kernel
theorem dX12_plan_22 : decode cX12_plan 22 = .ok (.ireturn, 1) := by decide +kernel
theorem dX12_plan_23 : decode cX12_plan 23 = .ok (.aload_n 0, 1) := by decide +kernel
theorem dX12_plan_24 : decode cX12_plan 24 = .ok (.getfield 28, 3) := by decide +kernel
theorem dX12_plan_27 : decode cX12_plan 27 = .ok (.iconst 2, 1) := by decide +kernel
theorem dX12_plan_28 : decode cX12_plan 28 = .ok (.aload_n 0, 1) := by decide +kernel
theorem dX12_plan_29 : decode cX12_plan 29 = .ok (.getfield 117, 3) := by decide +kernel
theorem dX12_plan_32 : decode cX12_plan 32 = .ok (.imul, 1) := by decide +kernel
theorem dX12_plan_33 : decode cX12_plan 33 = .ok (.iload_n 1, 1) := by decide +kernel
theorem dX12_plan_34 : decode cX12_plan 34 = .ok (.iastore, 1) := by decide +kernel
theorem dX12_plan_35 : decode cX12_plan 35 = .ok (.aload_n 0, 1) := by decide +kernel
theorem dX12_plan_36 : decode cX12_plan 36 = .ok (.getfield 28, 3) := by decide +kernel
theorem dX12_plan_39 : decode cX12_plan 39 = .ok (.iconst 2, 1) := by decide +kernel
theorem dX12_plan_40 : decode cX12_plan 40 = .ok (.aload_n 0, 1) := by decide +kernel
theorem dX12_plan_41 : decode cX12_plan 41 = .ok (.getfield 117, 3) := by decide +kernel
theorem dX12_plan_44 : decode cX12_plan 44 = .ok (.imul, 1) := by decide +kernel
theorem dX12_plan_45 : decode cX12_plan 45 = .ok (.iconst 1, 1) := by decide +kernel
theorem dX12_plan_46 : decode cX12_plan 46 = .ok (.iadd, 1) := by decide +kernel
theorem dX12_plan_47 : decode cX12_plan 47 = .ok (.iload_n 2, 1) := by decide +kernel
theorem dX12_plan_48 : decode cX12_plan 48 = .ok (.iastore, 1) := by decide +kernel
theorem dX12_plan_49 : decode cX12_plan 49 = .ok (.aload_n 0, 1) := by decide +kernel
theorem dX12_plan_50 : decode cX12_plan 50 = .ok (.dup, 1) := by decide +kernel
theorem dX12_plan_51 : decode cX12_plan 51 = .ok (.getfield 117, 3) := by decide +kernel
theorem dX12_plan_54 : decode cX12_plan 54 = .ok (.iconst 1, 1) := by decide +kernel
theorem dX12_plan_55 : decode cX12_plan 55 = .ok (.iadd, 1) := by decide +kernel
theorem dX12_plan_56 : decode cX12_plan 56 = .ok (.putfield 117, 3) := by decide +kernel
theorem dX12_plan_59 : decode cX12_plan 59 = .ok (.aload_n 0, 1) := by decide +kernel
theorem dX12_plan_60 : decode cX12_plan 60 = .ok (.getfield 117, 3) := by decide +kernel
theorem dX12_plan_63 : decode cX12_plan 63 = .ok (.ireturn, 1) := by decide +kernel
theorem dX12_dream_0 : decode cX12_dream 0 = .ok (.aload_n 0, 1) := by decide +kernel
theorem dX12_dream_1 : decode cX12_dream 1 = .ok (.getfield 117, 3) := by decide +kernel
theorem dX12_dream_4 : decode cX12_dream 4 = .ok (.istore_n 1, 1) := by decide +kernel
theorem dX12_dream_5 : decode cX12_dream 5 = .ok (.aload_n 0, 1) := by decide +kernel
theorem dX12_dream_6 : decode cX12_dream 6 = .ok (.iconst 0, 1) := by decide +kernel
theorem dX12_dream_7 : decode cX12_dream 7 = .ok (.putfield 117, 3) := by decide +kernel
theorem dX12_dream_10 : decode cX12_dream 10 = .ok (.iload_n 1, 1) := by decide +kernel
theorem dX12_dream_11 : decode cX12_dream 11 = .ok (.ireturn, 1) := by decide +kernel
theorem dX12_isOrder_0 : decode cX12_isOrder 0 = .ok (.iload_n 1, 1) := by decide +kernel
theorem dX12_isOrder_1 : decode cX12_isOrder 1 = .ok (.istore_n 2, 1) := by decide +kernel
theorem dX12_isOrder_2 : decode cX12_isOrder 2 = .ok (.iconst 0, 1) := by decide +kernel
theorem dX12_isOrder_3 : decode cX12_isOrder 3 = .ok (.istore_n 3, 1) := by decide +kernel
theorem dX12_isOrder_4 : decode cX12_isOrder 4 = .ok (.aload_n 0, 1) := by decide +kernel
theorem dX12_isOrder_5 : decode cX12_isOrder 5 = .ok (.getfield 117, 3) := by decide +kernel
theorem dX12_isOrder_8 : decode cX12_isOrder 8 = .ok (.iconst 1, 1) := by decide +kernel
theorem dX12_isOrder_9 : decode cX12_isOrder 9 = .ok (.isub, 1) := by decide +kernel
theorem dX12_isOrder_10 : decode cX12_isOrder 10 = .ok (.istore 4, 2) := by decide +kernel
theorem dX12_isOrder_12 : decode cX12_isOrder 12 = .ok (.iload 4, 2) := by decide +kernel
theorem dX12_isOrder_14 : decode cX12_isOrder 14 = .ok (.ifCond .lt 41, 3) := by decide +kernel
theorem dX12_isOrder_17 : decode cX12_isOrder 17 = .ok (.aload_n 0, 1) := by decide +kernel
theorem dX12_isOrder_18 : decode cX12_isOrder 18 = .ok (.getfield 37, 3) := by decide +kernel
theorem dX12_isOrder_21 : decode cX12_isOrder 21 = .ok (.iload 4, 2) := by decide +kernel
theorem dX12_isOrder_23 : decode cX12_isOrder 23 = .ok (.iload_n 2, 1) := by decide +kernel
theorem dX12_isOrder_24 : decode cX12_isOrder 24 = .ok (.aload_n 0, 1) := by decide +kernel
theorem dX12_isOrder_25 : decode cX12_isOrder 25 = .ok (.getfield 117, 3) := by decide +kernel
theorem dX12_isOrder_28 : decode cX12_isOrder 28 = .ok (.irem, 1) := by decide +kernel
theorem dX12_isOrder_29 : decode cX12_isOrder 29 = .ok (.iastore, 1) := by decide +kernel
theorem dX12_isOrder_30 : decode cX12_isOrder 30 = .ok (.iload_n 3, 1) := by decide +kernel
theorem dX12_isOrder_31 : decode cX12_isOrder 31 = .ok (.iconst 1, 1) := by decide +kernel
theorem dX12_isOrder_32 : decode cX12_isOrder 32 = .ok (.aload_n 0, 1) := by decide +kernel
theorem dX12_isOrder_33 : decode cX12_isOrder 33 = .ok (.getfield 37, 3) := by decide +kernel
theorem dX12_isOrder_36 : decode cX12_isOrder 36 = .ok (.iload 4, 2) := by decide +kernel
theorem dX12_isOrder_38 : decode cX12_isOrder 38 = .ok (.iaload, 1) := by decide +kernel
theorem dX12_isOrder_39 : decode cX12_isOrder 39 = .ok (.ishl, 1) := by decide +kernel
theorem dX12_isOrder_40 : decode cX12_isOrder 40 = .ok (.ior, 1) := by decide +kernel
theorem dX12_isOrder_41 : decode cX12_isOrder 41 = .ok (.istore_n 3, 1) := by decide +kernel
theorem dX12_isOrder_42 : decode cX12_isOrder 42 = .ok (.iload_n 2, 1) := by decide +kernel
theorem dX12_isOrder_43 : decode cX12_isOrder 43 = .ok (.aload_n 0, 1) := by decide +kernel
theorem dX12_isOrder_44 : decode cX12_isOrder 44 = .ok (.getfield 117, 3) := by decide +kernel
theorem dX12_isOrder_47 : decode cX12_isOrder 47 = .ok (.idiv, 1) := by decide +kernel
theorem dX12_isOrder_48 : decode cX12_isOrder 48 = .ok (.istore_n 2, 1) := by decide +kernel
theorem dX12_isOrder_49 : decode cX12_isOrder 49 = .ok (.iinc 4 (-1), 3) := by decide +kernel
theorem dX12_isOrder_52 : decode cX12_isOrder 52 = .ok (.goto (-40), 3) := by decide +kernel
theorem dX12_isOrder_55 : decode cX12_isOrder 55 = .ok (.iload_n 3, 1) := by decide +kernel
theorem dX12_isOrder_56 : decode cX12_isOrder 56 = .ok (.iconst 1, 1) := by decide +kernel
theorem dX12_isOrder_57 : decode cX12_isOrder 57 = .ok (.aload_n 0, 1) := by decide +kernel
theorem dX12_isOrder_58 : decode cX12_isOrder 58 = .ok (.getfield 117, 3) := by decide +kernel
theorem dX12_isOrder_61 : decode cX12_isOrder 61 = .ok (.ishl, 1) := by decide +kernel
theorem dX12_isOrder_62 : decode cX12_isOrder 62 = .ok (.iconst 1, 1) := by decide +kernel
theorem dX12_isOrder_63 : decode cX12_isOrder 63 = .ok (.isub, 1) := by decide +kernel
theorem dX12_isOrder_64 : decode cX12_isOrder 64 = .ok (.if_icmp .ne 7, 3) := by decide +kernel
theorem dX12_isOrder_67 : decode cX12_isOrder 67 = .ok (.iconst 1, 1) := by decide +kernel
theorem dX12_isOrder_68 : decode cX12_isOrder 68 = .ok (.goto 4, 3) := by decide +kernel
theorem dX12_isOrder_71 : decode cX12_isOrder 71 = .ok (.iconst 0, 1) := by decide +kernel
theorem dX12_isOrder_72 : decode cX12_isOrder 72 = .ok (.ireturn, 1) := by decide +kernel
set_option maxRecDepth 20000 in
theorem ggX12_layOrder_X12_layAside : GoodIn wsX12_layOrder wsX12_layAside := goodIn_r _ [10, 11, 12, 13, 14, 15, 16, 9, 17, 50, 51, 52, 53, 54, 55, 56, 57, 58, 59, 60, 61, 62, 63, 64, 65, 66, 67, 68, 69, 70, 71, 72, 73, 74, 75, 76, 77, 78, 79, 80, 81, 82, 83, 84, 85, 86, 87] (by decide +kernel) (by decide +kernel)
set_option maxRecDepth 20000 in
theorem gX12_layOrder_X12_layAside : GoodIn wsX12_layOrder (wsV RX12 184 RX12 yX12_layAside wsX12_layAside) := goodIn_app (goodIn_of _ (by decide +kernel)) ggX12_layOrder_X12_layAside
set_option maxRecDepth 20000 in
theorem ggX12_layOrder_X12_isOrder : GoodIn wsX12_layOrder wsX12_isOrder := goodIn_r _ [21, 1, 3, 50, 51, 52, 53, 54, 55, 56, 57, 58, 59, 60, 61, 62, 63, 64, 65, 66, 67, 68, 69, 70, 71, 72, 73, 74, 75, 76, 77, 78, 79, 80, 81, 82, 83, 84, 85, 86, 87] (by decide +kernel) (by decide +kernel)
set_option maxRecDepth 20000 in
theorem gX12_layOrder_X12_isOrder : GoodIn wsX12_layOrder (wsV RX12 187 RX12 yX12_isOrder wsX12_isOrder) := goodIn_app (goodIn_of _ (by decide +kernel)) ggX12_layOrder_X12_isOrder
set_option maxRecDepth 20000 in
theorem ggX12_layOrder_X12_marry : GoodIn wsX12_layOrder wsX12_marry := goodIn_r _ [25, 26, 27, 28, 9, 29, 30, 31, 32, 33, 13, 34, 35, 36, 37, 11, 38, 39, 40, 41, 50, 51, 52, 53, 54, 55, 56, 57, 58, 59, 60, 61, 62, 63, 64, 65, 66, 67, 68, 69, 70, 71, 72, 73, 74, 75, 76, 77, 78, 79, 80, 81, 82, 83, 84, 85, 86, 87] (by decide +kernel) (by decide +kernel)
set_option maxRecDepth 20000 in
theorem gX12_layOrder_X12_marry : GoodIn wsX12_layOrder (wsV RX12 166 RX12 yX12_marry wsX12_marry) := goodIn_app (goodIn_of _ (by decide +kernel)) ggX12_layOrder_X12_marry
set_option maxRecDepth 20000 in
theorem ggX12_layOrder_X12_owedAll : GoodIn wsX12_layOrder wsX12_owedAll := goodIn_r _ [45, 13, 50, 51, 52, 53, 54, 55, 56, 57, 58, 59, 60, 61, 62, 63, 64, 65, 66, 67, 68, 69, 70, 71, 72, 73, 74, 75, 76, 77, 78, 79, 80, 81, 82, 83, 84, 85, 86, 87] (by decide +kernel) (by decide +kernel)
set_option maxRecDepth 20000 in
theorem gX12_layOrder_X12_owedAll : GoodIn wsX12_layOrder (wsV RX12 174 RX12 yX12_owedAll wsX12_owedAll) := goodIn_app (goodIn_of _ (by decide +kernel)) ggX12_layOrder_X12_owedAll
set_option maxRecDepth 20000 in
theorem ggX12_layOrder_X12_copy : GoodIn wsX12_layOrder wsX12_copy := goodIn_r _ [17] (by decide +kernel) (by decide +kernel)
set_option maxRecDepth 20000 in
theorem gX12_layOrder_X12_copy : GoodIn wsX12_layOrder (va_wsS RX12 180 yX12_copy wsX12_copy) := goodIn_app (goodIn_of _ (by decide +kernel)) ggX12_layOrder_X12_copy
set_option maxRecDepth 20000 in
theorem ggX12_layOrder_X12_layBack : GoodIn wsX12_layOrder wsX12_layBack := goodIn_r _ [49, 12, 11, 14, 13, 15, 16, 9, 17, 50, 51, 52, 53, 54, 55, 56, 57, 58, 59, 60, 61, 62, 63, 64, 65, 66, 67, 68, 69, 70, 71, 72, 73, 74, 75, 76, 77, 78, 79, 80, 81, 82, 83, 84, 85, 86, 87] (by decide +kernel) (by decide +kernel)
set_option maxRecDepth 20000 in
theorem gX12_layOrder_X12_layBack : GoodIn wsX12_layOrder (wsV RX12 190 RX12 yX12_layBack wsX12_layBack) := goodIn_app (goodIn_of _ (by decide +kernel)) ggX12_layOrder_X12_layBack
theorem dX12_layOrder_0 : decode cX12_layOrder 0 = .ok (.iconst 1, 1) := by decide +kernel
theorem dX12_layOrder_1 : decode cX12_layOrder 1 = .ok (.istore_n 1, 1) := by decide +kernel
theorem dX12_layOrder_2 : decode cX12_layOrder 2 = .ok (.iconst 0, 1) := by decide +kernel
theorem dX12_layOrder_3 : decode cX12_layOrder 3 = .ok (.istore_n 2, 1) := by decide +kernel
theorem dX12_layOrder_4 : decode cX12_layOrder 4 = .ok (.iload_n 2, 1) := by decide +kernel
theorem dX12_layOrder_5 : decode cX12_layOrder 5 = .ok (.aload_n 0, 1) := by decide +kernel
theorem dX12_layOrder_6 : decode cX12_layOrder 6 = .ok (.getfield 117, 3) := by decide +kernel
theorem dX12_layOrder_9 : decode cX12_layOrder 9 = .ok (.if_icmp .ge 16, 3) := by decide +kernel
theorem dX12_layOrder_12 : decode cX12_layOrder 12 = .ok (.iload_n 1, 1) := by decide +kernel
theorem dX12_layOrder_13 : decode cX12_layOrder 13 = .ok (.aload_n 0, 1) := by decide +kernel
theorem dX12_layOrder_14 : decode cX12_layOrder 14 = .ok (.getfield 117, 3) := by decide +kernel
theorem dX12_layOrder_17 : decode cX12_layOrder 17 = .ok (.imul, 1) := by decide +kernel
theorem dX12_layOrder_18 : decode cX12_layOrder 18 = .ok (.istore_n 1, 1) := by decide +kernel
theorem dX12_layOrder_19 : decode cX12_layOrder 19 = .ok (.iinc 2 1, 3) := by decide +kernel
theorem dX12_layOrder_22 : decode cX12_layOrder 22 = .ok (.goto (-18), 3) := by decide +kernel
theorem dX12_layOrder_25 : decode cX12_layOrder 25 = .ok (.iconst (-1), 1) := by decide +kernel
theorem dX12_layOrder_26 : decode cX12_layOrder 26 = .ok (.istore_n 2, 1) := by decide +kernel
theorem dX12_layOrder_27 : decode cX12_layOrder 27 = .ok (.aload_n 0, 1) := by decide +kernel
theorem dX12_layOrder_28 : decode cX12_layOrder 28 = .ok (.invokevirtual 184, 3) := by decide +kernel
theorem dX12_layOrder_31 : decode cX12_layOrder 31 = .ok (.iconst 0, 1) := by decide +kernel
theorem dX12_layOrder_32 : decode cX12_layOrder 32 = .ok (.istore_n 3, 1) := by decide +kernel
theorem dX12_layOrder_33 : decode cX12_layOrder 33 = .ok (.iload_n 3, 1) := by decide +kernel
theorem dX12_layOrder_34 : decode cX12_layOrder 34 = .ok (.iload_n 1, 1) := by decide +kernel
theorem dX12_layOrder_35 : decode cX12_layOrder 35 = .ok (.if_icmp .ge 108, 3) := by decide +kernel
theorem dX12_layOrder_38 : decode cX12_layOrder 38 = .ok (.aload_n 0, 1) := by decide +kernel
theorem dX12_layOrder_39 : decode cX12_layOrder 39 = .ok (.iload_n 3, 1) := by decide +kernel
theorem dX12_layOrder_40 : decode cX12_layOrder 40 = .ok (.invokevirtual 187, 3) := by decide +kernel
theorem dX12_layOrder_43 : decode cX12_layOrder 43 = .ok (.ifCond .eq 94, 3) := by decide +kernel
theorem dX12_layOrder_46 : decode cX12_layOrder 46 = .ok (.iconst 0, 1) := by decide +kernel
theorem dX12_layOrder_47 : decode cX12_layOrder 47 = .ok (.istore 4, 2) := by decide +kernel
theorem dX12_layOrder_49 : decode cX12_layOrder 49 = .ok (.iload 4, 2) := by decide +kernel
theorem dX12_layOrder_51 : decode cX12_layOrder 51 = .ok (.aload_n 0, 1) := by decide +kernel
theorem dX12_layOrder_52 : decode cX12_layOrder 52 = .ok (.getfield 117, 3) := by decide +kernel
theorem dX12_layOrder_55 : decode cX12_layOrder 55 = .ok (.if_icmp .ge 49, 3) := by decide +kernel
theorem dX12_layOrder_58 : decode cX12_layOrder 58 = .ok (.aload_n 0, 1) := by decide +kernel
theorem dX12_layOrder_59 : decode cX12_layOrder 59 = .ok (.aload_n 0, 1) := by decide +kernel
theorem dX12_layOrder_60 : decode cX12_layOrder 60 = .ok (.getfield 28, 3) := by decide +kernel
theorem dX12_layOrder_63 : decode cX12_layOrder 63 = .ok (.iconst 2, 1) := by decide +kernel
theorem dX12_layOrder_64 : decode cX12_layOrder 64 = .ok (.aload_n 0, 1) := by decide +kernel
theorem dX12_layOrder_65 : decode cX12_layOrder 65 = .ok (.getfield 37, 3) := by decide +kernel
theorem dX12_layOrder_68 : decode cX12_layOrder 68 = .ok (.iload 4, 2) := by decide +kernel
theorem dX12_layOrder_70 : decode cX12_layOrder 70 = .ok (.iaload, 1) := by decide +kernel
theorem dX12_layOrder_71 : decode cX12_layOrder 71 = .ok (.imul, 1) := by decide +kernel
theorem dX12_layOrder_72 : decode cX12_layOrder 72 = .ok (.iaload, 1) := by decide +kernel
theorem dX12_layOrder_73 : decode cX12_layOrder 73 = .ok (.aload_n 0, 1) := by decide +kernel
theorem dX12_layOrder_74 : decode cX12_layOrder 74 = .ok (.getfield 28, 3) := by decide +kernel
theorem dX12_layOrder_77 : decode cX12_layOrder 77 = .ok (.iconst 2, 1) := by decide +kernel
theorem dX12_layOrder_78 : decode cX12_layOrder 78 = .ok (.aload_n 0, 1) := by decide +kernel
theorem dX12_layOrder_79 : decode cX12_layOrder 79 = .ok (.getfield 37, 3) := by decide +kernel
theorem dX12_layOrder_82 : decode cX12_layOrder 82 = .ok (.iload 4, 2) := by decide +kernel
theorem dX12_layOrder_84 : decode cX12_layOrder 84 = .ok (.iaload, 1) := by decide +kernel
theorem dX12_layOrder_85 : decode cX12_layOrder 85 = .ok (.imul, 1) := by decide +kernel
theorem dX12_layOrder_86 : decode cX12_layOrder 86 = .ok (.iconst 1, 1) := by decide +kernel
theorem dX12_layOrder_87 : decode cX12_layOrder 87 = .ok (.iadd, 1) := by decide +kernel
theorem dX12_layOrder_88 : decode cX12_layOrder 88 = .ok (.iaload, 1) := by decide +kernel
theorem dX12_layOrder_89 : decode cX12_layOrder 89 = .ok (.aload_n 0, 1) := by decide +kernel
theorem dX12_layOrder_90 : decode cX12_layOrder 90 = .ok (.getfield 108, 3) := by decide +kernel
theorem dX12_layOrder_93 : decode cX12_layOrder 93 = .ok (.invokevirtual 166, 3) := by decide +kernel
theorem dX12_layOrder_96 : decode cX12_layOrder 96 = .ok (.istore 5, 2) := by decide +kernel
theorem dX12_layOrder_98 : decode cX12_layOrder 98 = .ok (.iinc 4 1, 3) := by decide +kernel
theorem dX12_layOrder_101 : decode cX12_layOrder 101 = .ok (.goto (-52), 3) := by decide +kernel
theorem dX12_layOrder_104 : decode cX12_layOrder 104 = .ok (.iload_n 2, 1) := by decide +kernel
theorem dX12_layOrder_105 : decode cX12_layOrder 105 = .ok (.iconst (-1), 1) := by decide +kernel
theorem dX12_layOrder_106 : decode cX12_layOrder 106 = .ok (.if_icmp .eq 11, 3) := by decide +kernel
theorem dX12_layOrder_109 : decode cX12_layOrder 109 = .ok (.aload_n 0, 1) := by decide +kernel
theorem dX12_layOrder_110 : decode cX12_layOrder 110 = .ok (.invokevirtual 174, 3) := by decide +kernel
theorem dX12_layOrder_113 : decode cX12_layOrder 113 = .ok (.iload_n 2, 1) := by decide +kernel
theorem dX12_layOrder_114 : decode cX12_layOrder 114 = .ok (.if_icmp .ge 19, 3) := by decide +kernel
theorem dX12_layOrder_117 : decode cX12_layOrder 117 = .ok (.aload_n 0, 1) := by decide +kernel
theorem dX12_layOrder_118 : decode cX12_layOrder 118 = .ok (.invokevirtual 174, 3) := by decide +kernel
theorem dX12_layOrder_121 : decode cX12_layOrder 121 = .ok (.istore_n 2, 1) := by decide +kernel
theorem dX12_layOrder_122 : decode cX12_layOrder 122 = .ok (.aload_n 0, 1) := by decide +kernel
theorem dX12_layOrder_123 : decode cX12_layOrder 123 = .ok (.getfield 37, 3) := by decide +kernel
theorem dX12_layOrder_126 : decode cX12_layOrder 126 = .ok (.aload_n 0, 1) := by decide +kernel
theorem dX12_layOrder_127 : decode cX12_layOrder 127 = .ok (.getfield 40, 3) := by decide +kernel
theorem dX12_layOrder_130 : decode cX12_layOrder 130 = .ok (.invokestatic 180, 3) := by decide +kernel
theorem dX12_layOrder_133 : decode cX12_layOrder 133 = .ok (.aload_n 0, 1) := by decide +kernel
theorem dX12_layOrder_134 : decode cX12_layOrder 134 = .ok (.invokevirtual 190, 3) := by decide +kernel
theorem dX12_layOrder_137 : decode cX12_layOrder 137 = .ok (.iinc 3 1, 3) := by decide +kernel
theorem dX12_layOrder_140 : decode cX12_layOrder 140 = .ok (.goto (-107), 3) := by decide +kernel
theorem dX12_layOrder_143 : decode cX12_layOrder 143 = .ok (.iload_n 2, 1) := by decide +kernel
theorem dX12_layOrder_144 : decode cX12_layOrder 144 = .ok (.ireturn, 1) := by decide +kernel
set_option maxRecDepth 20000 in
theorem ggX12_orderOf_X12_layOrder : GoodIn wsX12_orderOf wsX12_layOrder := goodIn_r _ [7, 1, 8, 9, 10, 2, 11, 12, 13, 6, 14, 15, 16, 17, 18, 19, 20, 21, 22, 23, 24, 25, 26, 27, 28, 29, 30, 31, 32, 33, 34, 35, 36, 37, 38, 39, 40, 41, 42, 43, 44, 45, 46, 47, 48, 49, 50, 51, 52, 53, 54, 55, 56, 57, 58, 59, 60, 61, 62, 63, 64, 65, 66, 67, 68, 69, 70, 71, 72, 73, 74, 75, 76, 77, 78, 79, 80, 81, 82, 83, 84, 85, 86, 87, 88, 89, 90, 91] (by decide +kernel) (by decide +kernel)
set_option maxRecDepth 20000 in
theorem gX12_orderOf_X12_layOrder : GoodIn wsX12_orderOf (wsV RX12 193 RX12 yX12_layOrder wsX12_layOrder) := goodIn_app (goodIn_of _ (by decide +kernel)) ggX12_orderOf_X12_layOrder
end
section
theorem dX12_orderOf_0 : decode cX12_orderOf 0 = .ok (.aload_n 0, 1) := by decide +kernel
theorem dX12_orderOf_1 : decode cX12_orderOf 1 = .ok (.invokevirtual 193, 3) := by decide +kernel
theorem dX12_orderOf_4 : decode cX12_orderOf 4 = .ok (.istore_n 2, 1) := by decide +kernel
theorem dX12_orderOf_5 : decode cX12_orderOf 5 = .ok (.iload_n 1, 1) := by decide +kernel
theorem dX12_orderOf_6 : decode cX12_orderOf 6 = .ok (.ifCond .ne 7, 3) := by decide +kernel
theorem dX12_orderOf_9 : decode cX12_orderOf 9 = .ok (.iload_n 2, 1) := by decide +kernel
theorem dX12_orderOf_10 : decode cX12_orderOf 10 = .ok (.goto 27, 3) := by decide +kernel
theorem dX12_orderOf_13 : decode cX12_orderOf 13 = .ok (.iload_n 1, 1) := by decide +kernel
theorem dX12_orderOf_14 : decode cX12_orderOf 14 = .ok (.bipush 10, 2) := by decide +kernel
theorem dX12_orderOf_16 : decode cX12_orderOf 16 = .ok (.isub, 1) := by decide +kernel
theorem dX12_orderOf_17 : decode cX12_orderOf 17 = .ok (.aload_n 0, 1) := by decide +kernel
theorem dX12_orderOf_18 : decode cX12_orderOf 18 = .ok (.getfield 117, 3) := by decide +kernel
theorem dX12_orderOf_21 : decode cX12_orderOf 21 = .ok (.if_icmp .ge 15, 3) := by decide +kernel
theorem dX12_orderOf_24 : decode cX12_orderOf 24 = .ok (.aload_n 0, 1) := by decide +kernel
theorem dX12_orderOf_25 : decode cX12_orderOf 25 = .ok (.getfield 40, 3) := by decide +kernel
theorem dX12_orderOf_28 : decode cX12_orderOf 28 = .ok (.iload_n 1, 1) := by decide +kernel
theorem dX12_orderOf_29 : decode cX12_orderOf 29 = .ok (.bipush 10, 2) := by decide +kernel
theorem dX12_orderOf_31 : decode cX12_orderOf 31 = .ok (.isub, 1) := by decide +kernel
theorem dX12_orderOf_32 : decode cX12_orderOf 32 = .ok (.iaload, 1) := by decide +kernel
theorem dX12_orderOf_33 : decode cX12_orderOf 33 = .ok (.goto 4, 3) := by decide +kernel
theorem dX12_orderOf_36 : decode cX12_orderOf 36 = .ok (.iconst (-1), 1) := by decide +kernel
theorem dX12_orderOf_37 : decode cX12_orderOf 37 = .ok (.ireturn, 1) := by decide +kernel
set_option maxRecDepth 20000 in
theorem ggX12_order_X12_in : GoodIn wsX12_order wsX12_in := goodIn_r _ [6] (by decide +kernel) (by decide +kernel)
set_option maxRecDepth 20000 in
theorem gX12_order_X12_in : GoodIn wsX12_order (va_wsS RX12 73 yX12_in wsX12_in) := goodIn_app (goodIn_of _ (by decide +kernel)) ggX12_order_X12_in
set_option maxRecDepth 20000 in
theorem ggX12_order_X12_lacks : GoodIn wsX12_order wsX12_lacks := goodIn_r _ [10, 11, 68, 69, 70, 71, 72, 73, 74, 75, 76, 77, 78, 79, 80, 81, 82, 83, 84, 85, 86, 87, 88, 89, 90, 91, 92, 93, 94, 95, 96, 97, 98, 99, 100, 101, 102, 103, 104, 105] (by decide +kernel) (by decide +kernel)
set_option maxRecDepth 20000 in
theorem gX12_order_X12_lacks : GoodIn wsX12_order (wsV RX12 155 RX12 yX12_lacks wsX12_lacks) := goodIn_app (goodIn_of _ (by decide +kernel)) ggX12_order_X12_lacks
set_option maxRecDepth 20000 in
theorem ggX12_order_X12_orderOf : GoodIn wsX12_order wsX12_orderOf := goodIn_r _ [15, 16, 17, 18, 19, 20, 5, 21, 22, 23, 24, 25, 26, 27, 28, 29, 30, 31, 32, 33, 34, 35, 36, 37, 38, 39, 40, 41, 42, 43, 44, 45, 46, 47, 48, 49, 50, 51, 52, 53, 54, 55, 56, 57, 58, 59, 60, 61, 62, 63, 64, 65, 66, 67, 68, 69, 70, 71, 72, 73, 74, 75, 76, 77, 78, 79, 80, 81, 82, 83, 84, 85, 86, 87, 88, 89, 90, 91, 92, 93, 94, 95, 96, 97, 98, 99, 100, 101, 102, 103, 104, 105] (by decide +kernel) (by decide +kernel)
set_option maxRecDepth 20000 in
theorem gX12_order_X12_orderOf : GoodIn wsX12_order (wsV RX12 196 RX12 yX12_orderOf wsX12_orderOf) := goodIn_app (goodIn_of _ (by decide +kernel)) ggX12_order_X12_orderOf
theorem dX12_order_0 : decode cX12_order 0 = .ok (.iload_n 1, 1) := by decide +kernel
theorem dX12_order_1 : decode cX12_order 1 = .ok (.ifCond .eq 20, 3) := by decide +kernel
theorem dX12_order_4 : decode cX12_order 4 = .ok (.iload_n 1, 1) := by decide +kernel
theorem dX12_order_5 : decode cX12_order 5 = .ok (.i2l, 1) := by decide +kernel
theorem dX12_order_6 : decode cX12_order 6 = .ok (.ldc2_w 136, 3) := by decide +kernel
theorem dX12_order_9 : decode cX12_order 9 = .ok (.ldc2_w 138, 3) := by decide +kernel
theorem dX12_order_12 : decode cX12_order 12 = .ok (.invokestatic 73, 3) := by decide +kernel
theorem dX12_order_15 : decode cX12_order 15 = .ok (.ifCond .ne 6, 3) := by decide +kernel
theorem dX12_order_18 : decode cX12_order 18 = .ok (.bipush (-102), 2) := by decide +kernel
theorem dX12_order_20 : decode cX12_order 20 = .ok (.ireturn, 1) := by decide +kernel
theorem dX12_order_21 : decode cX12_order 21 = .ok (.aload_n 0, 1) := by decide +kernel
theorem dX12_order_22 : decode cX12_order 22 = .ok (.invokevirtual 155, 3) := by decide +kernel
theorem dX12_order_25 : decode cX12_order 25 = .ok (.ifCond .eq 8, 3) := by decide +kernel
theorem dX12_order_28 : decode cX12_order 28 = .ok (.bipush (-103), 2) := by decide +kernel
theorem dX12_order_30 : decode cX12_order 30 = .ok (.goto 8, 3) := by decide +kernel
theorem dX12_order_33 : decode cX12_order 33 = .ok (.aload_n 0, 1) := by decide +kernel
theorem dX12_order_34 : decode cX12_order 34 = .ok (.iload_n 1, 1) := by decide +kernel
theorem dX12_order_35 : decode cX12_order 35 = .ok (.invokevirtual 196, 3) := by decide +kernel
theorem dX12_order_38 : decode cX12_order 38 = .ok (.ireturn, 1) := by decide +kernel
set_option maxRecDepth 20000 in
theorem ggX12_highOf_X12_owesOf : GoodIn wsX12_highOf wsX12_owesOf := goodIn_r _ [9, 10, 45, 46, 47, 48, 49, 50, 51, 52, 53, 54, 55, 56, 57, 58, 59, 60, 61, 62, 63, 64, 65, 66, 67, 68, 69, 70, 71, 72, 73, 74, 75, 76, 77, 78, 79, 80, 81, 82] (by decide +kernel) (by decide +kernel)
set_option maxRecDepth 20000 in
theorem gX12_highOf_X12_owesOf : GoodIn wsX12_highOf (wsV RX12 144 RX12 yX12_owesOf wsX12_owesOf) := goodIn_app (goodIn_of _ (by decide +kernel)) ggX12_highOf_X12_owesOf
set_option maxRecDepth 20000 in
theorem ggX12_highOf_X12_layAside : GoodIn wsX12_highOf wsX12_layAside := goodIn_r _ [14, 15, 16, 10, 17, 18, 19, 8, 20, 45, 46, 47, 48, 49, 50, 51, 52, 53, 54, 55, 56, 57, 58, 59, 60, 61, 62, 63, 64, 65, 66, 67, 68, 69, 70, 71, 72, 73, 74, 75, 76, 77, 78, 79, 80, 81, 82] (by decide +kernel) (by decide +kernel)
set_option maxRecDepth 20000 in
theorem gX12_highOf_X12_layAside : GoodIn wsX12_highOf (wsV RX12 184 RX12 yX12_layAside wsX12_layAside) := goodIn_app (goodIn_of _ (by decide +kernel)) ggX12_highOf_X12_layAside
set_option maxRecDepth 20000 in
theorem ggX12_highOf_X12_marry : GoodIn wsX12_highOf wsX12_marry := goodIn_r _ [24, 25, 26, 27, 8, 28, 29, 30, 31, 32, 10, 33, 34, 35, 36, 15, 37, 38, 39, 40, 45, 46, 47, 48, 49, 50, 51, 52, 53, 54, 55, 56, 57, 58, 59, 60, 61, 62, 63, 64, 65, 66, 67, 68, 69, 70, 71, 72, 73, 74, 75, 76, 77, 78, 79, 80, 81, 82] (by decide +kernel) (by decide +kernel)
set_option maxRecDepth 20000 in
theorem gX12_highOf_X12_marry : GoodIn wsX12_highOf (wsV RX12 166 RX12 yX12_marry wsX12_marry) := goodIn_app (goodIn_of _ (by decide +kernel)) ggX12_highOf_X12_marry
set_option maxRecDepth 20000 in
theorem ggX12_highOf_X12_layBack : GoodIn wsX12_highOf wsX12_layBack := goodIn_r _ [44, 16, 15, 17, 10, 18, 19, 8, 20, 45, 46, 47, 48, 49, 50, 51, 52, 53, 54, 55, 56, 57, 58, 59, 60, 61, 62, 63, 64, 65, 66, 67, 68, 69, 70, 71, 72, 73, 74, 75, 76, 77, 78, 79, 80, 81, 82] (by decide +kernel) (by decide +kernel)
set_option maxRecDepth 20000 in
theorem gX12_highOf_X12_layBack : GoodIn wsX12_highOf (wsV RX12 190 RX12 yX12_layBack wsX12_layBack) := goodIn_app (goodIn_of _ (by decide +kernel)) ggX12_highOf_X12_layBack
theorem dX12_highOf_0 : decode cX12_highOf 0 = .ok (.iconst 0, 1) := by decide +kernel
theorem dX12_highOf_1 : decode cX12_highOf 1 = .ok (.istore_n 1, 1) := by decide +kernel
theorem dX12_highOf_2 : decode cX12_highOf 2 = .ok (.iload_n 1, 1) := by decide +kernel
theorem dX12_highOf_3 : decode cX12_highOf 3 = .ok (.aload_n 0, 1) := by decide +kernel
theorem dX12_highOf_4 : decode cX12_highOf 4 = .ok (.getfield 105, 3) := by decide +kernel
theorem dX12_highOf_7 : decode cX12_highOf 7 = .ok (.if_icmp .ge 20, 3) := by decide +kernel
theorem dX12_highOf_10 : decode cX12_highOf 10 = .ok (.aload_n 0, 1) := by decide +kernel
theorem dX12_highOf_11 : decode cX12_highOf 11 = .ok (.getfield 43, 3) := by decide +kernel
theorem dX12_highOf_14 : decode cX12_highOf 14 = .ok (.iload_n 1, 1) := by decide +kernel
theorem dX12_highOf_15 : decode cX12_highOf 15 = .ok (.aload_n 0, 1) := by decide +kernel
theorem dX12_highOf_16 : decode cX12_highOf 16 = .ok (.iload_n 1, 1) := by decide +kernel
theorem dX12_highOf_17 : decode cX12_highOf 17 = .ok (.invokevirtual 144, 3) := by decide +kernel
theorem dX12_highOf_20 : decode cX12_highOf 20 = .ok (.iastore, 1) := by decide +kernel
theorem dX12_highOf_21 : decode cX12_highOf 21 = .ok (.iinc 1 1, 3) := by decide +kernel
theorem dX12_highOf_24 : decode cX12_highOf 24 = .ok (.goto (-22), 3) := by decide +kernel
theorem dX12_highOf_27 : decode cX12_highOf 27 = .ok (.iconst (-1), 1) := by decide +kernel
theorem dX12_highOf_28 : decode cX12_highOf 28 = .ok (.istore_n 1, 1) := by decide +kernel
theorem dX12_highOf_29 : decode cX12_highOf 29 = .ok (.aload_n 0, 1) := by decide +kernel
theorem dX12_highOf_30 : decode cX12_highOf 30 = .ok (.invokevirtual 184, 3) := by decide +kernel
theorem dX12_highOf_33 : decode cX12_highOf 33 = .ok (.iconst 1, 1) := by decide +kernel
theorem dX12_highOf_34 : decode cX12_highOf 34 = .ok (.istore_n 2, 1) := by decide +kernel
theorem dX12_highOf_35 : decode cX12_highOf 35 = .ok (.iload_n 2, 1) := by decide +kernel
theorem dX12_highOf_36 : decode cX12_highOf 36 = .ok (.bipush 10, 2) := by decide +kernel
theorem dX12_highOf_38 : decode cX12_highOf 38 = .ok (.if_icmp .ge 110, 3) := by decide +kernel
theorem dX12_highOf_41 : decode cX12_highOf 41 = .ok (.iconst 0, 1) := by decide +kernel
theorem dX12_highOf_42 : decode cX12_highOf 42 = .ok (.istore_n 3, 1) := by decide +kernel
theorem dX12_highOf_43 : decode cX12_highOf 43 = .ok (.iload_n 3, 1) := by decide +kernel
theorem dX12_highOf_44 : decode cX12_highOf 44 = .ok (.aload_n 0, 1) := by decide +kernel
theorem dX12_highOf_45 : decode cX12_highOf 45 = .ok (.getfield 117, 3) := by decide +kernel
theorem dX12_highOf_48 : decode cX12_highOf 48 = .ok (.if_icmp .ge 34, 3) := by decide +kernel
theorem dX12_highOf_51 : decode cX12_highOf 51 = .ok (.aload_n 0, 1) := by decide +kernel
theorem dX12_highOf_52 : decode cX12_highOf 52 = .ok (.aload_n 0, 1) := by decide +kernel
theorem dX12_highOf_53 : decode cX12_highOf 53 = .ok (.getfield 28, 3) := by decide +kernel
theorem dX12_highOf_56 : decode cX12_highOf 56 = .ok (.iconst 2, 1) := by decide +kernel
theorem dX12_highOf_57 : decode cX12_highOf 57 = .ok (.iload_n 3, 1) := by decide +kernel
theorem dX12_highOf_58 : decode cX12_highOf 58 = .ok (.imul, 1) := by decide +kernel
theorem dX12_highOf_59 : decode cX12_highOf 59 = .ok (.iaload, 1) := by decide +kernel
theorem dX12_highOf_60 : decode cX12_highOf 60 = .ok (.aload_n 0, 1) := by decide +kernel
theorem dX12_highOf_61 : decode cX12_highOf 61 = .ok (.getfield 28, 3) := by decide +kernel
theorem dX12_highOf_64 : decode cX12_highOf 64 = .ok (.iconst 2, 1) := by decide +kernel
theorem dX12_highOf_65 : decode cX12_highOf 65 = .ok (.iload_n 3, 1) := by decide +kernel
theorem dX12_highOf_66 : decode cX12_highOf 66 = .ok (.imul, 1) := by decide +kernel
theorem dX12_highOf_67 : decode cX12_highOf 67 = .ok (.iconst 1, 1) := by decide +kernel
theorem dX12_highOf_68 : decode cX12_highOf 68 = .ok (.iadd, 1) := by decide +kernel
theorem dX12_highOf_69 : decode cX12_highOf 69 = .ok (.iaload, 1) := by decide +kernel
theorem dX12_highOf_70 : decode cX12_highOf 70 = .ok (.iload_n 2, 1) := by decide +kernel
theorem dX12_highOf_71 : decode cX12_highOf 71 = .ok (.invokevirtual 166, 3) := by decide +kernel
theorem dX12_highOf_74 : decode cX12_highOf 74 = .ok (.istore 4, 2) := by decide +kernel
theorem dX12_highOf_76 : decode cX12_highOf 76 = .ok (.iinc 3 1, 3) := by decide +kernel
theorem dX12_highOf_79 : decode cX12_highOf 79 = .ok (.goto (-36), 3) := by decide +kernel
theorem dX12_highOf_82 : decode cX12_highOf 82 = .ok (.iconst 1, 1) := by decide +kernel
theorem dX12_highOf_83 : decode cX12_highOf 83 = .ok (.istore_n 3, 1) := by decide +kernel
theorem dX12_highOf_84 : decode cX12_highOf 84 = .ok (.iconst 0, 1) := by decide +kernel
theorem dX12_highOf_85 : decode cX12_highOf 85 = .ok (.istore 4, 2) := by decide +kernel
theorem dX12_highOf_87 : decode cX12_highOf 87 = .ok (.iload 4, 2) := by decide +kernel
theorem dX12_highOf_89 : decode cX12_highOf 89 = .ok (.aload_n 0, 1) := by decide +kernel
theorem dX12_highOf_90 : decode cX12_highOf 90 = .ok (.getfield 105, 3) := by decide +kernel
theorem dX12_highOf_93 : decode cX12_highOf 93 = .ok (.if_icmp .ge 35, 3) := by decide +kernel
theorem dX12_highOf_96 : decode cX12_highOf 96 = .ok (.iload_n 3, 1) := by decide +kernel
theorem dX12_highOf_97 : decode cX12_highOf 97 = .ok (.ifCond .eq 23, 3) := by decide +kernel
theorem dX12_highOf_100 : decode cX12_highOf 100 = .ok (.aload_n 0, 1) := by decide +kernel
theorem dX12_highOf_101 : decode cX12_highOf 101 = .ok (.iload 4, 2) := by decide +kernel
theorem dX12_highOf_103 : decode cX12_highOf 103 = .ok (.invokevirtual 144, 3) := by decide +kernel
theorem dX12_highOf_106 : decode cX12_highOf 106 = .ok (.aload_n 0, 1) := by decide +kernel
theorem dX12_highOf_107 : decode cX12_highOf 107 = .ok (.getfield 43, 3) := by decide +kernel
theorem dX12_highOf_110 : decode cX12_highOf 110 = .ok (.iload 4, 2) := by decide +kernel
theorem dX12_highOf_112 : decode cX12_highOf 112 = .ok (.iaload, 1) := by decide +kernel
theorem dX12_highOf_113 : decode cX12_highOf 113 = .ok (.if_icmp .gt 7, 3) := by decide +kernel
theorem dX12_highOf_116 : decode cX12_highOf 116 = .ok (.iconst 1, 1) := by decide +kernel
theorem dX12_highOf_117 : decode cX12_highOf 117 = .ok (.goto 4, 3) := by decide +kernel
theorem dX12_highOf_120 : decode cX12_highOf 120 = .ok (.iconst 0, 1) := by decide +kernel
theorem dX12_highOf_121 : decode cX12_highOf 121 = .ok (.istore_n 3, 1) := by decide +kernel
theorem dX12_highOf_122 : decode cX12_highOf 122 = .ok (.iinc 4 1, 3) := by decide +kernel
theorem dX12_highOf_125 : decode cX12_highOf 125 = .ok (.goto (-38), 3) := by decide +kernel
theorem dX12_highOf_128 : decode cX12_highOf 128 = .ok (.iload_n 3, 1) := by decide +kernel
theorem dX12_highOf_129 : decode cX12_highOf 129 = .ok (.ifCond .eq 7, 3) := by decide +kernel
theorem dX12_highOf_132 : decode cX12_highOf 132 = .ok (.iload_n 2, 1) := by decide +kernel
theorem dX12_highOf_133 : decode cX12_highOf 133 = .ok (.goto 4, 3) := by decide +kernel
theorem dX12_highOf_136 : decode cX12_highOf 136 = .ok (.iload_n 1, 1) := by decide +kernel
theorem dX12_highOf_137 : decode cX12_highOf 137 = .ok (.istore_n 1, 1) := by decide +kernel
theorem dX12_highOf_138 : decode cX12_highOf 138 = .ok (.aload_n 0, 1) := by decide +kernel
theorem dX12_highOf_139 : decode cX12_highOf 139 = .ok (.invokevirtual 190, 3) := by decide +kernel
theorem dX12_highOf_142 : decode cX12_highOf 142 = .ok (.iinc 2 1, 3) := by decide +kernel
theorem dX12_highOf_145 : decode cX12_highOf 145 = .ok (.goto (-110), 3) := by decide +kernel
theorem dX12_highOf_148 : decode cX12_highOf 148 = .ok (.iload_n 1, 1) := by decide +kernel
theorem dX12_highOf_149 : decode cX12_highOf 149 = .ok (.ireturn, 1) := by decide +kernel
set_option maxRecDepth 20000 in
theorem ggX12_high_X12_lacks : GoodIn wsX12_high wsX12_lacks := goodIn_r _ [5, 6, 53, 54, 55, 56, 57, 58, 59, 60, 61, 62, 63, 64, 65, 66, 67, 68, 69, 70, 71, 72, 73, 74, 75, 76, 77, 78, 79, 80, 81, 82, 83, 84, 85, 86, 87, 88, 89, 90] (by decide +kernel) (by decide +kernel)
set_option maxRecDepth 20000 in
theorem gX12_high_X12_lacks : GoodIn wsX12_high (wsV RX12 155 RX12 yX12_lacks wsX12_lacks) := goodIn_app (goodIn_of _ (by decide +kernel)) ggX12_high_X12_lacks
set_option maxRecDepth 20000 in
theorem ggX12_high_X12_highOf : GoodIn wsX12_high wsX12_highOf := goodIn_r _ [10, 6, 11, 12, 13, 14, 15, 16, 4, 17, 18, 19, 20, 21, 22, 23, 24, 25, 26, 27, 28, 29, 30, 31, 32, 33, 34, 35, 36, 37, 38, 39, 40, 41, 42, 43, 44, 45, 46, 47, 48, 49, 50, 51, 52, 53, 54, 55, 56, 57, 58, 59, 60, 61, 62, 63, 64, 65, 66, 67, 68, 69, 70, 71, 72, 73, 74, 75, 76, 77, 78, 79, 80, 81, 82, 83, 84, 85, 86, 87, 88, 89, 90] (by decide +kernel) (by decide +kernel)
set_option maxRecDepth 20000 in
theorem gX12_high_X12_highOf : GoodIn wsX12_high (wsV RX12 199 RX12 yX12_highOf wsX12_highOf) := goodIn_app (goodIn_of _ (by decide +kernel)) ggX12_high_X12_highOf
theorem dX12_high_0 : decode cX12_high 0 = .ok (.aload_n 0, 1) := by decide +kernel
theorem dX12_high_1 : decode cX12_high 1 = .ok (.invokevirtual 155, 3) := by decide +kernel
theorem dX12_high_4 : decode cX12_high 4 = .ok (.ifCond .eq 8, 3) := by decide +kernel
theorem dX12_high_7 : decode cX12_high 7 = .ok (.bipush (-103), 2) := by decide +kernel
theorem dX12_high_9 : decode cX12_high 9 = .ok (.goto 7, 3) := by decide +kernel
theorem dX12_high_12 : decode cX12_high 12 = .ok (.aload_n 0, 1) := by decide +kernel
theorem dX12_high_13 : decode cX12_high 13 = .ok (.invokevirtual 199, 3) := by decide +kernel
theorem dX12_high_16 : decode cX12_high 16 = .ok (.ireturn, 1) := by decide +kernel
set_option maxRecDepth 20000 in
theorem ggX12_tell_X12_in : GoodIn wsX12_tell wsX12_in := goodIn_r _ [8] (by decide +kernel) (by decide +kernel)
set_option maxRecDepth 20000 in
theorem gX12_tell_X12_in : GoodIn wsX12_tell (va_wsS RX12 73 yX12_in wsX12_in) := goodIn_app (goodIn_of _ (by decide +kernel)) ggX12_tell_X12_in
theorem dX12_tell_0 : decode cX12_tell 0 = .ok (.iload_n 1, 1) := by decide +kernel
theorem dX12_tell_1 : decode cX12_tell 1 = .ok (.i2l, 1) := by decide +kernel
theorem dX12_tell_2 : decode cX12_tell 2 = .ok (.lconst 1, 1) := by decide +kernel
theorem dX12_tell_3 : decode cX12_tell 3 = .ok (.ldc2_w 90, 3) := by decide +kernel
theorem dX12_tell_6 : decode cX12_tell 6 = .ok (.invokestatic 73, 3) := by decide +kernel
theorem dX12_tell_9 : decode cX12_tell 9 = .ok (.ifCond .eq 15, 3) := by decide +kernel
theorem dX12_tell_12 : decode cX12_tell 12 = .ok (.iload_n 2, 1) := by decide +kernel
theorem dX12_tell_13 : decode cX12_tell 13 = .ok (.i2l, 1) := by decide +kernel
theorem dX12_tell_14 : decode cX12_tell 14 = .ok (.lconst 1, 1) := by decide +kernel
theorem dX12_tell_15 : decode cX12_tell 15 = .ok (.ldc2_w 202, 3) := by decide +kernel
theorem dX12_tell_18 : decode cX12_tell 18 = .ok (.invokestatic 73, 3) := by decide +kernel
theorem dX12_tell_21 : decode cX12_tell 21 = .ok (.ifCond .ne 6, 3) := by decide +kernel
theorem dX12_tell_24 : decode cX12_tell 24 = .ok (.bipush (-102), 2) := by decide +kernel
theorem dX12_tell_26 : decode cX12_tell 26 = .ok (.ireturn, 1) := by decide +kernel
theorem dX12_tell_27 : decode cX12_tell 27 = .ok (.aload_n 0, 1) := by decide +kernel
theorem dX12_tell_28 : decode cX12_tell 28 = .ok (.getfield 120, 3) := by decide +kernel
theorem dX12_tell_31 : decode cX12_tell 31 = .ok (.bipush 6, 2) := by decide +kernel
theorem dX12_tell_33 : decode cX12_tell 33 = .ok (.if_icmp .ne 6, 3) := by decide +kernel
theorem dX12_tell_36 : decode cX12_tell 36 = .ok (.bipush (-104), 2) := by decide +kernel
theorem dX12_tell_38 : decode cX12_tell 38 = .ok (.ireturn, 1) := by decide +kernel
theorem dX12_tell_39 : decode cX12_tell 39 = .ok (.aload_n 0, 1) := by decide +kernel
theorem dX12_tell_40 : decode cX12_tell 40 = .ok (.getfield 46, 3) := by decide +kernel
theorem dX12_tell_43 : decode cX12_tell 43 = .ok (.iconst 2, 1) := by decide +kernel
theorem dX12_tell_44 : decode cX12_tell 44 = .ok (.aload_n 0, 1) := by decide +kernel
theorem dX12_tell_45 : decode cX12_tell 45 = .ok (.getfield 120, 3) := by decide +kernel
theorem dX12_tell_48 : decode cX12_tell 48 = .ok (.imul, 1) := by decide +kernel
theorem dX12_tell_49 : decode cX12_tell 49 = .ok (.iload_n 1, 1) := by decide +kernel
theorem dX12_tell_50 : decode cX12_tell 50 = .ok (.iastore, 1) := by decide +kernel
theorem dX12_tell_51 : decode cX12_tell 51 = .ok (.aload_n 0, 1) := by decide +kernel
theorem dX12_tell_52 : decode cX12_tell 52 = .ok (.getfield 46, 3) := by decide +kernel
theorem dX12_tell_55 : decode cX12_tell 55 = .ok (.iconst 2, 1) := by decide +kernel
theorem dX12_tell_56 : decode cX12_tell 56 = .ok (.aload_n 0, 1) := by decide +kernel
theorem dX12_tell_57 : decode cX12_tell 57 = .ok (.getfield 120, 3) := by decide +kernel
theorem dX12_tell_60 : decode cX12_tell 60 = .ok (.imul, 1) := by decide +kernel
theorem dX12_tell_61 : decode cX12_tell 61 = .ok (.iconst 1, 1) := by decide +kernel
theorem dX12_tell_62 : decode cX12_tell 62 = .ok (.iadd, 1) := by decide +kernel
theorem dX12_tell_63 : decode cX12_tell 63 = .ok (.iload_n 2, 1) := by decide +kernel
theorem dX12_tell_64 : decode cX12_tell 64 = .ok (.iastore, 1) := by decide +kernel
theorem dX12_tell_65 : decode cX12_tell 65 = .ok (.aload_n 0, 1) := by decide +kernel
theorem dX12_tell_66 : decode cX12_tell 66 = .ok (.dup, 1) := by decide +kernel
theorem dX12_tell_67 : decode cX12_tell 67 = .ok (.getfield 120, 3) := by decide +kernel
theorem dX12_tell_70 : decode cX12_tell 70 = .ok (.iconst 1, 1) := by decide +kernel
theorem dX12_tell_71 : decode cX12_tell 71 = .ok (.iadd, 1) := by decide +kernel
theorem dX12_tell_72 : decode cX12_tell 72 = .ok (.putfield 120, 3) := by decide +kernel
theorem dX12_tell_75 : decode cX12_tell 75 = .ok (.aload_n 0, 1) := by decide +kernel
theorem dX12_tell_76 : decode cX12_tell 76 = .ok (.getfield 120, 3) := by decide +kernel
theorem dX12_tell_79 : decode cX12_tell 79 = .ok (.ireturn, 1) := by decide +kernel
theorem dX12_forget_0 : decode cX12_forget 0 = .ok (.aload_n 0, 1) := by decide +kernel
theorem dX12_forget_1 : decode cX12_forget 1 = .ok (.getfield 120, 3) := by decide +kernel
theorem dX12_forget_4 : decode cX12_forget 4 = .ok (.istore_n 1, 1) := by decide +kernel
theorem dX12_forget_5 : decode cX12_forget 5 = .ok (.aload_n 0, 1) := by decide +kernel
theorem dX12_forget_6 : decode cX12_forget 6 = .ok (.iconst 0, 1) := by decide +kernel
theorem dX12_forget_7 : decode cX12_forget 7 = .ok (.putfield 120, 3) := by decide +kernel
theorem dX12_forget_10 : decode cX12_forget 10 = .ok (.iload_n 1, 1) := by decide +kernel
theorem dX12_forget_11 : decode cX12_forget 11 = .ok (.ireturn, 1) := by decide +kernel
set_option maxRecDepth 20000 in
theorem ggX12_whichOf_X12_asksBy : GoodIn wsX12_whichOf wsX12_asksBy := goodIn_r _ [6] (by decide +kernel) (by decide +kernel)
set_option maxRecDepth 20000 in
theorem gX12_whichOf_X12_asksBy : GoodIn wsX12_whichOf (va_wsS RX12 140 yX12_asksBy wsX12_asksBy) := goodIn_app (goodIn_of _ (by decide +kernel)) ggX12_whichOf_X12_asksBy
theorem dX12_whichOf_0 : decode cX12_whichOf 0 = .ok (.iconst 0, 1) := by decide +kernel
theorem dX12_whichOf_1 : decode cX12_whichOf 1 = .ok (.istore_n 1, 1) := by decide +kernel
theorem dX12_whichOf_2 : decode cX12_whichOf 2 = .ok (.iconst 0, 1) := by decide +kernel
theorem dX12_whichOf_3 : decode cX12_whichOf 3 = .ok (.istore_n 2, 1) := by decide +kernel
theorem dX12_whichOf_4 : decode cX12_whichOf 4 = .ok (.iload_n 2, 1) := by decide +kernel
theorem dX12_whichOf_5 : decode cX12_whichOf 5 = .ok (.iconst 5, 1) := by decide +kernel
theorem dX12_whichOf_6 : decode cX12_whichOf 6 = .ok (.if_icmp .ge 80, 3) := by decide +kernel
theorem dX12_whichOf_9 : decode cX12_whichOf 9 = .ok (.iconst 1, 1) := by decide +kernel
theorem dX12_whichOf_10 : decode cX12_whichOf 10 = .ok (.istore_n 3, 1) := by decide +kernel
theorem dX12_whichOf_11 : decode cX12_whichOf 11 = .ok (.iconst 0, 1) := by decide +kernel
theorem dX12_whichOf_12 : decode cX12_whichOf 12 = .ok (.istore 4, 2) := by decide +kernel
theorem dX12_whichOf_14 : decode cX12_whichOf 14 = .ok (.iload 4, 2) := by decide +kernel
theorem dX12_whichOf_16 : decode cX12_whichOf 16 = .ok (.aload_n 0, 1) := by decide +kernel
theorem dX12_whichOf_17 : decode cX12_whichOf 17 = .ok (.getfield 120, 3) := by decide +kernel
theorem dX12_whichOf_20 : decode cX12_whichOf 20 = .ok (.if_icmp .ge 46, 3) := by decide +kernel
theorem dX12_whichOf_23 : decode cX12_whichOf 23 = .ok (.iload_n 3, 1) := by decide +kernel
theorem dX12_whichOf_24 : decode cX12_whichOf 24 = .ok (.ifCond .eq 34, 3) := by decide +kernel
theorem dX12_whichOf_27 : decode cX12_whichOf 27 = .ok (.iload_n 2, 1) := by decide +kernel
theorem dX12_whichOf_28 : decode cX12_whichOf 28 = .ok (.aload_n 0, 1) := by decide +kernel
theorem dX12_whichOf_29 : decode cX12_whichOf 29 = .ok (.getfield 46, 3) := by decide +kernel
theorem dX12_whichOf_32 : decode cX12_whichOf 32 = .ok (.iconst 2, 1) := by decide +kernel
theorem dX12_whichOf_33 : decode cX12_whichOf 33 = .ok (.iload 4, 2) := by decide +kernel
theorem dX12_whichOf_35 : decode cX12_whichOf 35 = .ok (.imul, 1) := by decide +kernel
theorem dX12_whichOf_36 : decode cX12_whichOf 36 = .ok (.iaload, 1) := by decide +kernel
theorem dX12_whichOf_37 : decode cX12_whichOf 37 = .ok (.invokestatic 140, 3) := by decide +kernel
theorem dX12_whichOf_40 : decode cX12_whichOf 40 = .ok (.aload_n 0, 1) := by decide +kernel
theorem dX12_whichOf_41 : decode cX12_whichOf 41 = .ok (.getfield 46, 3) := by decide +kernel
theorem dX12_whichOf_44 : decode cX12_whichOf 44 = .ok (.iconst 2, 1) := by decide +kernel
theorem dX12_whichOf_45 : decode cX12_whichOf 45 = .ok (.iload 4, 2) := by decide +kernel
theorem dX12_whichOf_47 : decode cX12_whichOf 47 = .ok (.imul, 1) := by decide +kernel
theorem dX12_whichOf_48 : decode cX12_whichOf 48 = .ok (.iconst 1, 1) := by decide +kernel
theorem dX12_whichOf_49 : decode cX12_whichOf 49 = .ok (.iadd, 1) := by decide +kernel
theorem dX12_whichOf_50 : decode cX12_whichOf 50 = .ok (.iaload, 1) := by decide +kernel
theorem dX12_whichOf_51 : decode cX12_whichOf 51 = .ok (.if_icmp .ne 7, 3) := by decide +kernel
theorem dX12_whichOf_54 : decode cX12_whichOf 54 = .ok (.iconst 1, 1) := by decide +kernel
theorem dX12_whichOf_55 : decode cX12_whichOf 55 = .ok (.goto 4, 3) := by decide +kernel
theorem dX12_whichOf_58 : decode cX12_whichOf 58 = .ok (.iconst 0, 1) := by decide +kernel
theorem dX12_whichOf_59 : decode cX12_whichOf 59 = .ok (.istore_n 3, 1) := by decide +kernel
theorem dX12_whichOf_60 : decode cX12_whichOf 60 = .ok (.iinc 4 1, 3) := by decide +kernel
theorem dX12_whichOf_63 : decode cX12_whichOf 63 = .ok (.goto (-49), 3) := by decide +kernel
theorem dX12_whichOf_66 : decode cX12_whichOf 66 = .ok (.iload_n 1, 1) := by decide +kernel
theorem dX12_whichOf_67 : decode cX12_whichOf 67 = .ok (.iload_n 3, 1) := by decide +kernel
theorem dX12_whichOf_68 : decode cX12_whichOf 68 = .ok (.ifCond .eq 9, 3) := by decide +kernel
theorem dX12_whichOf_71 : decode cX12_whichOf 71 = .ok (.iconst 1, 1) := by decide +kernel
theorem dX12_whichOf_72 : decode cX12_whichOf 72 = .ok (.iload_n 2, 1) := by decide +kernel
theorem dX12_whichOf_73 : decode cX12_whichOf 73 = .ok (.ishl, 1) := by decide +kernel
theorem dX12_whichOf_74 : decode cX12_whichOf 74 = .ok (.goto 4, 3) := by decide +kernel
theorem dX12_whichOf_77 : decode cX12_whichOf 77 = .ok (.iconst 0, 1) := by decide +kernel
theorem dX12_whichOf_78 : decode cX12_whichOf 78 = .ok (.ior, 1) := by decide +kernel
theorem dX12_whichOf_79 : decode cX12_whichOf 79 = .ok (.istore_n 1, 1) := by decide +kernel
theorem dX12_whichOf_80 : decode cX12_whichOf 80 = .ok (.iinc 2 1, 3) := by decide +kernel
theorem dX12_whichOf_83 : decode cX12_whichOf 83 = .ok (.goto (-79), 3) := by decide +kernel
theorem dX12_whichOf_86 : decode cX12_whichOf 86 = .ok (.iload_n 1, 1) := by decide +kernel
theorem dX12_whichOf_87 : decode cX12_whichOf 87 = .ok (.ireturn, 1) := by decide +kernel
set_option maxRecDepth 20000 in
theorem ggX12_which_X12_whichOf : GoodIn wsX12_which wsX12_whichOf := goodIn_r _ [5, 6, 7, 8, 9, 4, 10, 11, 12, 13, 14, 15, 16, 17, 18, 19, 20, 21, 22, 23, 24, 25, 26, 27, 28, 29, 30, 31, 32, 33, 34, 35, 36, 37, 38, 39, 40, 41, 42, 43, 44, 45, 46, 47, 48] (by decide +kernel) (by decide +kernel)
set_option maxRecDepth 20000 in
theorem gX12_which_X12_whichOf : GoodIn wsX12_which (wsV RX12 204 RX12 yX12_whichOf wsX12_whichOf) := goodIn_app (goodIn_of _ (by decide +kernel)) ggX12_which_X12_whichOf
theorem dX12_which_0 : decode cX12_which 0 = .ok (.aload_n 0, 1) := by decide +kernel
theorem dX12_which_1 : decode cX12_which 1 = .ok (.invokevirtual 204, 3) := by decide +kernel
theorem dX12_which_4 : decode cX12_which 4 = .ok (.ireturn, 1) := by decide +kernel
set_option maxRecDepth 20000 in
theorem ggX12_askOf_X12_whichOf : GoodIn wsX12_askOf wsX12_whichOf := goodIn_r _ [6, 7, 8, 9, 10, 5, 11, 12, 13, 14, 15, 16, 17, 18, 19, 20, 21, 22, 23, 24, 25, 26, 27, 28, 29, 30, 31, 32, 33, 34, 35, 36, 37, 38, 39, 40, 41, 42, 43, 44, 45, 46, 47, 48, 49] (by decide +kernel) (by decide +kernel)
set_option maxRecDepth 20000 in
theorem gX12_askOf_X12_whichOf : GoodIn wsX12_askOf (wsV RX12 204 RX12 yX12_whichOf wsX12_whichOf) := goodIn_app (goodIn_of _ (by decide +kernel)) ggX12_askOf_X12_whichOf
set_option maxRecDepth 20000 in
theorem ggX12_askOf_X12_asksBy : GoodIn wsX12_askOf wsX12_asksBy := goodIn_r _ [11] (by decide +kernel) (by decide +kernel)
set_option maxRecDepth 20000 in
theorem gX12_askOf_X12_asksBy : GoodIn wsX12_askOf (va_wsS RX12 140 yX12_asksBy wsX12_asksBy) := goodIn_app (goodIn_of _ (by decide +kernel)) ggX12_askOf_X12_asksBy
theorem dX12_askOf_0 : decode cX12_askOf 0 = .ok (.aload_n 0, 1) := by decide +kernel
theorem dX12_askOf_1 : decode cX12_askOf 1 = .ok (.invokevirtual 204, 3) := by decide +kernel
theorem dX12_askOf_4 : decode cX12_askOf 4 = .ok (.istore_n 1, 1) := by decide +kernel
theorem dX12_askOf_5 : decode cX12_askOf 5 = .ok (.iconst (-1), 1) := by decide +kernel
theorem dX12_askOf_6 : decode cX12_askOf 6 = .ok (.istore_n 2, 1) := by decide +kernel
theorem dX12_askOf_7 : decode cX12_askOf 7 = .ok (.bipush 6, 2) := by decide +kernel
theorem dX12_askOf_9 : decode cX12_askOf 9 = .ok (.istore_n 3, 1) := by decide +kernel
theorem dX12_askOf_10 : decode cX12_askOf 10 = .ok (.iconst 1, 1) := by decide +kernel
theorem dX12_askOf_11 : decode cX12_askOf 11 = .ok (.istore 4, 2) := by decide +kernel
theorem dX12_askOf_13 : decode cX12_askOf 13 = .ok (.iload 4, 2) := by decide +kernel
theorem dX12_askOf_15 : decode cX12_askOf 15 = .ok (.bipush 10, 2) := by decide +kernel
theorem dX12_askOf_17 : decode cX12_askOf 17 = .ok (.if_icmp .ge 132, 3) := by decide +kernel
theorem dX12_askOf_20 : decode cX12_askOf 20 = .ok (.iload_n 1, 1) := by decide +kernel
theorem dX12_askOf_21 : decode cX12_askOf 21 = .ok (.ifCond .eq 128, 3) := by decide +kernel
theorem dX12_askOf_24 : decode cX12_askOf 24 = .ok (.iconst 0, 1) := by decide +kernel
theorem dX12_askOf_25 : decode cX12_askOf 25 = .ok (.istore 5, 2) := by decide +kernel
theorem dX12_askOf_27 : decode cX12_askOf 27 = .ok (.iload 5, 2) := by decide +kernel
theorem dX12_askOf_29 : decode cX12_askOf 29 = .ok (.bipush 21, 2) := by decide +kernel
theorem dX12_askOf_31 : decode cX12_askOf 31 = .ok (.if_icmp .ge 17, 3) := by decide +kernel
theorem dX12_askOf_34 : decode cX12_askOf 34 = .ok (.aload_n 0, 1) := by decide +kernel
theorem dX12_askOf_35 : decode cX12_askOf 35 = .ok (.getfield 49, 3) := by decide +kernel
theorem dX12_askOf_38 : decode cX12_askOf 38 = .ok (.iload 5, 2) := by decide +kernel
theorem dX12_askOf_40 : decode cX12_askOf 40 = .ok (.iconst 0, 1) := by decide +kernel
theorem dX12_askOf_41 : decode cX12_askOf 41 = .ok (.iastore, 1) := by decide +kernel
theorem dX12_askOf_42 : decode cX12_askOf 42 = .ok (.iinc 5 1, 3) := by decide +kernel
theorem dX12_askOf_45 : decode cX12_askOf 45 = .ok (.goto (-18), 3) := by decide +kernel
theorem dX12_askOf_48 : decode cX12_askOf 48 = .ok (.iconst 0, 1) := by decide +kernel
theorem dX12_askOf_49 : decode cX12_askOf 49 = .ok (.istore 5, 2) := by decide +kernel
theorem dX12_askOf_51 : decode cX12_askOf 51 = .ok (.iconst 0, 1) := by decide +kernel
theorem dX12_askOf_52 : decode cX12_askOf 52 = .ok (.istore 6, 2) := by decide +kernel
theorem dX12_askOf_54 : decode cX12_askOf 54 = .ok (.iload 6, 2) := by decide +kernel
theorem dX12_askOf_56 : decode cX12_askOf 56 = .ok (.iconst 5, 1) := by decide +kernel
theorem dX12_askOf_57 : decode cX12_askOf 57 = .ok (.if_icmp .ge 60, 3) := by decide +kernel
theorem dX12_askOf_60 : decode cX12_askOf 60 = .ok (.iload 6, 2) := by decide +kernel
theorem dX12_askOf_62 : decode cX12_askOf 62 = .ok (.iload 4, 2) := by decide +kernel
theorem dX12_askOf_64 : decode cX12_askOf 64 = .ok (.invokestatic 140, 3) := by decide +kernel
theorem dX12_askOf_67 : decode cX12_askOf 67 = .ok (.istore 7, 2) := by decide +kernel
theorem dX12_askOf_69 : decode cX12_askOf 69 = .ok (.aload_n 0, 1) := by decide +kernel
theorem dX12_askOf_70 : decode cX12_askOf 70 = .ok (.getfield 49, 3) := by decide +kernel
theorem dX12_askOf_73 : decode cX12_askOf 73 = .ok (.iload 7, 2) := by decide +kernel
theorem dX12_askOf_75 : decode cX12_askOf 75 = .ok (.dup2, 1) := by decide +kernel
theorem dX12_askOf_76 : decode cX12_askOf 76 = .ok (.iaload, 1) := by decide +kernel
theorem dX12_askOf_77 : decode cX12_askOf 77 = .ok (.iload_n 1, 1) := by decide +kernel
theorem dX12_askOf_78 : decode cX12_askOf 78 = .ok (.iload 6, 2) := by decide +kernel
theorem dX12_askOf_80 : decode cX12_askOf 80 = .ok (.ishr, 1) := by decide +kernel
theorem dX12_askOf_81 : decode cX12_askOf 81 = .ok (.iconst 1, 1) := by decide +kernel
theorem dX12_askOf_82 : decode cX12_askOf 82 = .ok (.iand, 1) := by decide +kernel
theorem dX12_askOf_83 : decode cX12_askOf 83 = .ok (.iadd, 1) := by decide +kernel
theorem dX12_askOf_84 : decode cX12_askOf 84 = .ok (.iastore, 1) := by decide +kernel
theorem dX12_askOf_85 : decode cX12_askOf 85 = .ok (.aload_n 0, 1) := by decide +kernel
theorem dX12_askOf_86 : decode cX12_askOf 86 = .ok (.getfield 49, 3) := by decide +kernel
theorem dX12_askOf_89 : decode cX12_askOf 89 = .ok (.iload 7, 2) := by decide +kernel
theorem dX12_askOf_91 : decode cX12_askOf 91 = .ok (.iaload, 1) := by decide +kernel
theorem dX12_askOf_92 : decode cX12_askOf 92 = .ok (.iload 5, 2) := by decide +kernel
theorem dX12_askOf_94 : decode cX12_askOf 94 = .ok (.if_icmp .le 13, 3) := by decide +kernel
theorem dX12_askOf_97 : decode cX12_askOf 97 = .ok (.aload_n 0, 1) := by decide +kernel
theorem dX12_askOf_98 : decode cX12_askOf 98 = .ok (.getfield 49, 3) := by decide +kernel
theorem dX12_askOf_101 : decode cX12_askOf 101 = .ok (.iload 7, 2) := by decide +kernel
theorem dX12_askOf_103 : decode cX12_askOf 103 = .ok (.iaload, 1) := by decide +kernel
theorem dX12_askOf_104 : decode cX12_askOf 104 = .ok (.goto 5, 3) := by decide +kernel
theorem dX12_askOf_107 : decode cX12_askOf 107 = .ok (.iload 5, 2) := by decide +kernel
theorem dX12_askOf_109 : decode cX12_askOf 109 = .ok (.istore 5, 2) := by decide +kernel
theorem dX12_askOf_111 : decode cX12_askOf 111 = .ok (.iinc 6 1, 3) := by decide +kernel
theorem dX12_askOf_114 : decode cX12_askOf 114 = .ok (.goto (-60), 3) := by decide +kernel
theorem dX12_askOf_117 : decode cX12_askOf 117 = .ok (.iload 5, 2) := by decide +kernel
theorem dX12_askOf_119 : decode cX12_askOf 119 = .ok (.iload_n 3, 1) := by decide +kernel
theorem dX12_askOf_120 : decode cX12_askOf 120 = .ok (.if_icmp .ge 8, 3) := by decide +kernel
theorem dX12_askOf_123 : decode cX12_askOf 123 = .ok (.iload 4, 2) := by decide +kernel
theorem dX12_askOf_125 : decode cX12_askOf 125 = .ok (.goto 4, 3) := by decide +kernel
theorem dX12_askOf_128 : decode cX12_askOf 128 = .ok (.iload_n 2, 1) := by decide +kernel
theorem dX12_askOf_129 : decode cX12_askOf 129 = .ok (.istore_n 2, 1) := by decide +kernel
theorem dX12_askOf_130 : decode cX12_askOf 130 = .ok (.iload 5, 2) := by decide +kernel
theorem dX12_askOf_132 : decode cX12_askOf 132 = .ok (.iload_n 3, 1) := by decide +kernel
theorem dX12_askOf_133 : decode cX12_askOf 133 = .ok (.if_icmp .ge 8, 3) := by decide +kernel
theorem dX12_askOf_136 : decode cX12_askOf 136 = .ok (.iload 5, 2) := by decide +kernel
theorem dX12_askOf_138 : decode cX12_askOf 138 = .ok (.goto 4, 3) := by decide +kernel
theorem dX12_askOf_141 : decode cX12_askOf 141 = .ok (.iload_n 3, 1) := by decide +kernel
theorem dX12_askOf_142 : decode cX12_askOf 142 = .ok (.istore_n 3, 1) := by decide +kernel
theorem dX12_askOf_143 : decode cX12_askOf 143 = .ok (.iinc 4 1, 3) := by decide +kernel
theorem dX12_askOf_146 : decode cX12_askOf 146 = .ok (.goto (-133), 3) := by decide +kernel
theorem dX12_askOf_149 : decode cX12_askOf 149 = .ok (.iload_n 2, 1) := by decide +kernel
theorem dX12_askOf_150 : decode cX12_askOf 150 = .ok (.ireturn, 1) := by decide +kernel
set_option maxRecDepth 20000 in
theorem ggX12_ask_X12_askOf : GoodIn wsX12_ask wsX12_askOf := goodIn_r _ [5, 6, 7, 8, 9, 4, 10, 11, 12, 13, 14, 15, 16, 17, 18, 19, 20, 21, 22, 23, 24, 25, 26, 27, 28, 29, 30, 31, 32, 33, 34, 35, 36, 37, 38, 39, 40, 41, 42, 43, 44, 45, 46, 47, 48, 49, 50, 51, 52, 53] (by decide +kernel) (by decide +kernel)
set_option maxRecDepth 20000 in
theorem gX12_ask_X12_askOf : GoodIn wsX12_ask (wsV RX12 207 RX12 yX12_askOf wsX12_askOf) := goodIn_app (goodIn_of _ (by decide +kernel)) ggX12_ask_X12_askOf
theorem dX12_ask_0 : decode cX12_ask 0 = .ok (.aload_n 0, 1) := by decide +kernel
theorem dX12_ask_1 : decode cX12_ask 1 = .ok (.invokevirtual 207, 3) := by decide +kernel
theorem dX12_ask_4 : decode cX12_ask 4 = .ok (.ireturn, 1) := by decide +kernel
theorem dX12_draw_0 : decode cX12_draw 0 = .ok (.aload_n 0, 1) := by decide +kernel
theorem dX12_draw_1 : decode cX12_draw 1 = .ok (.ldc2_w 210, 3) := by decide +kernel
theorem dX12_draw_4 : decode cX12_draw 4 = .ok (.aload_n 0, 1) := by decide +kernel
theorem dX12_draw_5 : decode cX12_draw 5 = .ok (.getfield 212, 3) := by decide +kernel
theorem dX12_draw_8 : decode cX12_draw 8 = .ok (.i2l, 1) := by decide +kernel
theorem dX12_draw_9 : decode cX12_draw 9 = .ok (.lmul, 1) := by decide +kernel
theorem dX12_draw_10 : decode cX12_draw 10 = .ok (.ldc2_w 215, 3) := by decide +kernel
theorem dX12_draw_13 : decode cX12_draw 13 = .ok (.ladd, 1) := by decide +kernel
theorem dX12_draw_14 : decode cX12_draw 14 = .ok (.ldc2_w 217, 3) := by decide +kernel
theorem dX12_draw_17 : decode cX12_draw 17 = .ok (.land, 1) := by decide +kernel
theorem dX12_draw_18 : decode cX12_draw 18 = .ok (.l2i, 1) := by decide +kernel
theorem dX12_draw_19 : decode cX12_draw 19 = .ok (.putfield 212, 3) := by decide +kernel
theorem dX12_draw_22 : decode cX12_draw 22 = .ok (.aload_n 0, 1) := by decide +kernel
theorem dX12_draw_23 : decode cX12_draw 23 = .ok (.getfield 212, 3) := by decide +kernel
theorem dX12_draw_26 : decode cX12_draw 26 = .ok (.ldc 219, 2) := by decide +kernel
theorem dX12_draw_28 : decode cX12_draw 28 = .ok (.idiv, 1) := by decide +kernel
theorem dX12_draw_29 : decode cX12_draw 29 = .ok (.iload_n 1, 1) := by decide +kernel
theorem dX12_draw_30 : decode cX12_draw 30 = .ok (.irem, 1) := by decide +kernel
theorem dX12_draw_31 : decode cX12_draw 31 = .ok (.ireturn, 1) := by decide +kernel
set_option maxRecDepth 20000 in
theorem ggX12_ages_X12_in : GoodIn wsX12_ages wsX12_in := goodIn_r _ [9] (by decide +kernel) (by decide +kernel)
set_option maxRecDepth 20000 in
theorem gX12_ages_X12_in : GoodIn wsX12_ages (va_wsS RX12 73 yX12_in wsX12_in) := goodIn_app (goodIn_of _ (by decide +kernel)) ggX12_ages_X12_in
set_option maxRecDepth 20000 in
theorem ggX12_ages_X12_lacks : GoodIn wsX12_ages wsX12_lacks := goodIn_r _ [13, 4, 73, 74, 75, 76, 77, 78, 79, 80, 81, 82, 83, 84, 85, 86, 87, 88, 89, 90, 91, 92, 93, 94, 95, 96, 97, 98, 99, 100, 101, 102, 103, 104, 105, 106, 107, 108, 109, 110] (by decide +kernel) (by decide +kernel)
set_option maxRecDepth 20000 in
theorem gX12_ages_X12_lacks : GoodIn wsX12_ages (wsV RX12 155 RX12 yX12_lacks wsX12_lacks) := goodIn_app (goodIn_of _ (by decide +kernel)) ggX12_ages_X12_lacks
set_option maxRecDepth 20000 in
theorem ggX12_ages_X12_layAside : GoodIn wsX12_ages wsX12_layAside := goodIn_r _ [17, 18, 19, 20, 21, 22, 23, 8, 24, 73, 74, 75, 76, 77, 78, 79, 80, 81, 82, 83, 84, 85, 86, 87, 88, 89, 90, 91, 92, 93, 94, 95, 96, 97, 98, 99, 100, 101, 102, 103, 104, 105, 106, 107, 108, 109, 110] (by decide +kernel) (by decide +kernel)
set_option maxRecDepth 20000 in
theorem gX12_ages_X12_layAside : GoodIn wsX12_ages (wsV RX12 184 RX12 yX12_layAside wsX12_layAside) := goodIn_app (goodIn_of _ (by decide +kernel)) ggX12_ages_X12_layAside
set_option maxRecDepth 20000 in
theorem ggX12_ages_X12_draw : GoodIn wsX12_ages wsX12_draw := goodIn_r _ [28, 29, 3, 30, 31, 32, 73, 74, 75, 76, 77, 78, 79, 80, 81, 82, 83, 84, 85, 86, 87, 88, 89, 90, 91, 92, 93, 94, 95, 96, 97, 98, 99, 100, 101, 102, 103, 104, 105, 106, 107, 108, 109, 110] (by decide +kernel) (by decide +kernel)
set_option maxRecDepth 20000 in
theorem gX12_ages_X12_draw : GoodIn wsX12_ages (wsV RX12 224 RX12 yX12_draw wsX12_draw) := goodIn_app (goodIn_of _ (by decide +kernel)) ggX12_ages_X12_draw
set_option maxRecDepth 20000 in
theorem ggX12_ages_X12_marry : GoodIn wsX12_ages wsX12_marry := goodIn_r _ [36, 37, 38, 39, 8, 40, 41, 42, 43, 44, 20, 45, 46, 47, 48, 18, 49, 50, 51, 52, 73, 74, 75, 76, 77, 78, 79, 80, 81, 82, 83, 84, 85, 86, 87, 88, 89, 90, 91, 92, 93, 94, 95, 96, 97, 98, 99, 100, 101, 102, 103, 104, 105, 106, 107, 108, 109, 110] (by decide +kernel) (by decide +kernel)
set_option maxRecDepth 20000 in
theorem gX12_ages_X12_marry : GoodIn wsX12_ages (wsV RX12 166 RX12 yX12_marry wsX12_marry) := goodIn_app (goodIn_of _ (by decide +kernel)) ggX12_ages_X12_marry
set_option maxRecDepth 20000 in
theorem ggX12_ages_X12_passYear : GoodIn wsX12_ages wsX12_passYear := goodIn_r _ [56, 4, 18, 20, 57, 58, 59, 8, 60, 6, 7, 9, 45, 46, 47, 48, 49, 50, 51, 52, 37, 73, 74, 75, 76, 77, 78, 79, 80, 81, 82, 83, 84, 85, 86, 87, 88, 89, 90, 91, 92, 93, 94, 95, 96, 97, 98, 99, 100, 101, 102, 103, 104, 105, 106, 107, 108, 109, 110] (by decide +kernel) (by decide +kernel)
set_option maxRecDepth 20000 in
theorem gX12_ages_X12_passYear : GoodIn wsX12_ages (wsV RX12 171 RX12 yX12_passYear wsX12_passYear) := goodIn_app (goodIn_of _ (by decide +kernel)) ggX12_ages_X12_passYear
set_option maxRecDepth 20000 in
theorem ggX12_ages_X12_owedAll : GoodIn wsX12_ages wsX12_owedAll := goodIn_r _ [64, 20, 73, 74, 75, 76, 77, 78, 79, 80, 81, 82, 83, 84, 85, 86, 87, 88, 89, 90, 91, 92, 93, 94, 95, 96, 97, 98, 99, 100, 101, 102, 103, 104, 105, 106, 107, 108, 109, 110] (by decide +kernel) (by decide +kernel)
set_option maxRecDepth 20000 in
theorem gX12_ages_X12_owedAll : GoodIn wsX12_ages (wsV RX12 174 RX12 yX12_owedAll wsX12_owedAll) := goodIn_app (goodIn_of _ (by decide +kernel)) ggX12_ages_X12_owedAll
set_option maxRecDepth 20000 in
theorem ggX12_ages_X12_cowsAll : GoodIn wsX12_ages wsX12_cowsAll := goodIn_r _ [68, 4, 18, 73, 74, 75, 76, 77, 78, 79, 80, 81, 82, 83, 84, 85, 86, 87, 88, 89, 90, 91, 92, 93, 94, 95, 96, 97, 98, 99, 100, 101, 102, 103, 104, 105, 106, 107, 108, 109, 110] (by decide +kernel) (by decide +kernel)
set_option maxRecDepth 20000 in
theorem gX12_ages_X12_cowsAll : GoodIn wsX12_ages (wsV RX12 227 RX12 yX12_cowsAll wsX12_cowsAll) := goodIn_app (goodIn_of _ (by decide +kernel)) ggX12_ages_X12_cowsAll
set_option maxRecDepth 20000 in
theorem ggX12_ages_X12_layBack : GoodIn wsX12_ages wsX12_layBack := goodIn_r _ [72, 19, 18, 21, 20, 22, 23, 8, 24, 73, 74, 75, 76, 77, 78, 79, 80, 81, 82, 83, 84, 85, 86, 87, 88, 89, 90, 91, 92, 93, 94, 95, 96, 97, 98, 99, 100, 101, 102, 103, 104, 105, 106, 107, 108, 109, 110] (by decide +kernel) (by decide +kernel)
set_option maxRecDepth 20000 in
theorem gX12_ages_X12_layBack : GoodIn wsX12_ages (wsV RX12 190 RX12 yX12_layBack wsX12_layBack) := goodIn_app (goodIn_of _ (by decide +kernel)) ggX12_ages_X12_layBack
theorem dX12_ages_0 : decode cX12_ages 0 = .ok (.iload_n 1, 1) := by decide +kernel
theorem dX12_ages_1 : decode cX12_ages 1 = .ok (.i2l, 1) := by decide +kernel
theorem dX12_ages_2 : decode cX12_ages 2 = .ok (.lconst 1, 1) := by decide +kernel
theorem dX12_ages_3 : decode cX12_ages 3 = .ok (.ldc2_w 220, 3) := by decide +kernel
theorem dX12_ages_6 : decode cX12_ages 6 = .ok (.invokestatic 73, 3) := by decide +kernel
theorem dX12_ages_9 : decode cX12_ages 9 = .ok (.ifCond .eq 19, 3) := by decide +kernel
theorem dX12_ages_12 : decode cX12_ages 12 = .ok (.iload_n 2, 1) := by decide +kernel
theorem dX12_ages_13 : decode cX12_ages 13 = .ok (.ifCond .lt 15, 3) := by decide +kernel
theorem dX12_ages_16 : decode cX12_ages 16 = .ok (.iload_n 3, 1) := by decide +kernel
theorem dX12_ages_17 : decode cX12_ages 17 = .ok (.i2l, 1) := by decide +kernel
theorem dX12_ages_18 : decode cX12_ages 18 = .ok (.lconst 0, 1) := by decide +kernel
theorem dX12_ages_19 : decode cX12_ages 19 = .ok (.ldc2_w 222, 3) := by decide +kernel
theorem dX12_ages_22 : decode cX12_ages 22 = .ok (.invokestatic 73, 3) := by decide +kernel
theorem dX12_ages_25 : decode cX12_ages 25 = .ok (.ifCond .ne 6, 3) := by decide +kernel
theorem dX12_ages_28 : decode cX12_ages 28 = .ok (.bipush (-102), 2) := by decide +kernel
theorem dX12_ages_30 : decode cX12_ages 30 = .ok (.ireturn, 1) := by decide +kernel
theorem dX12_ages_31 : decode cX12_ages 31 = .ok (.aload_n 0, 1) := by decide +kernel
theorem dX12_ages_32 : decode cX12_ages 32 = .ok (.invokevirtual 155, 3) := by decide +kernel
theorem dX12_ages_35 : decode cX12_ages 35 = .ok (.ifCond .eq 6, 3) := by decide +kernel
theorem dX12_ages_38 : decode cX12_ages 38 = .ok (.bipush (-103), 2) := by decide +kernel
theorem dX12_ages_40 : decode cX12_ages 40 = .ok (.ireturn, 1) := by decide +kernel
theorem dX12_ages_41 : decode cX12_ages 41 = .ok (.aload_n 0, 1) := by decide +kernel
theorem dX12_ages_42 : decode cX12_ages 42 = .ok (.invokevirtual 184, 3) := by decide +kernel
theorem dX12_ages_45 : decode cX12_ages 45 = .ok (.aload_n 0, 1) := by decide +kernel
theorem dX12_ages_46 : decode cX12_ages 46 = .ok (.iload_n 2, 1) := by decide +kernel
theorem dX12_ages_47 : decode cX12_ages 47 = .ok (.putfield 212, 3) := by decide +kernel
theorem dX12_ages_50 : decode cX12_ages 50 = .ok (.iconst 0, 1) := by decide +kernel
theorem dX12_ages_51 : decode cX12_ages 51 = .ok (.istore 4, 2) := by decide +kernel
theorem dX12_ages_53 : decode cX12_ages 53 = .ok (.iload 4, 2) := by decide +kernel
theorem dX12_ages_55 : decode cX12_ages 55 = .ok (.iload_n 1, 1) := by decide +kernel
theorem dX12_ages_56 : decode cX12_ages 56 = .ok (.if_icmp .ge 54, 3) := by decide +kernel
theorem dX12_ages_59 : decode cX12_ages 59 = .ok (.aload_n 0, 1) := by decide +kernel
theorem dX12_ages_60 : decode cX12_ages 60 = .ok (.aload_n 0, 1) := by decide +kernel
theorem dX12_ages_61 : decode cX12_ages 61 = .ok (.getfield 105, 3) := by decide +kernel
theorem dX12_ages_64 : decode cX12_ages 64 = .ok (.invokevirtual 224, 3) := by decide +kernel
theorem dX12_ages_67 : decode cX12_ages 67 = .ok (.istore 5, 2) := by decide +kernel
theorem dX12_ages_69 : decode cX12_ages 69 = .ok (.aload_n 0, 1) := by decide +kernel
theorem dX12_ages_70 : decode cX12_ages 70 = .ok (.aload_n 0, 1) := by decide +kernel
theorem dX12_ages_71 : decode cX12_ages 71 = .ok (.getfield 105, 3) := by decide +kernel
theorem dX12_ages_74 : decode cX12_ages 74 = .ok (.invokevirtual 224, 3) := by decide +kernel
theorem dX12_ages_77 : decode cX12_ages 77 = .ok (.istore 6, 2) := by decide +kernel
theorem dX12_ages_79 : decode cX12_ages 79 = .ok (.iload 5, 2) := by decide +kernel
theorem dX12_ages_81 : decode cX12_ages 81 = .ok (.iload 6, 2) := by decide +kernel
theorem dX12_ages_83 : decode cX12_ages 83 = .ok (.if_icmp .eq 17, 3) := by decide +kernel
theorem dX12_ages_86 : decode cX12_ages 86 = .ok (.aload_n 0, 1) := by decide +kernel
theorem dX12_ages_87 : decode cX12_ages 87 = .ok (.iload 5, 2) := by decide +kernel
theorem dX12_ages_89 : decode cX12_ages 89 = .ok (.iload 6, 2) := by decide +kernel
theorem dX12_ages_91 : decode cX12_ages 91 = .ok (.aload_n 0, 1) := by decide +kernel
theorem dX12_ages_92 : decode cX12_ages 92 = .ok (.getfield 108, 3) := by decide +kernel
theorem dX12_ages_95 : decode cX12_ages 95 = .ok (.invokevirtual 166, 3) := by decide +kernel
theorem dX12_ages_98 : decode cX12_ages 98 = .ok (.istore 7, 2) := by decide +kernel
theorem dX12_ages_100 : decode cX12_ages 100 = .ok (.aload_n 0, 1) := by decide +kernel
theorem dX12_ages_101 : decode cX12_ages 101 = .ok (.invokevirtual 171, 3) := by decide +kernel
theorem dX12_ages_104 : decode cX12_ages 104 = .ok (.iinc 4 1, 3) := by decide +kernel
theorem dX12_ages_107 : decode cX12_ages 107 = .ok (.goto (-54), 3) := by decide +kernel
theorem dX12_ages_110 : decode cX12_ages 110 = .ok (.aload_n 0, 1) := by decide +kernel
theorem dX12_ages_111 : decode cX12_ages 111 = .ok (.invokevirtual 174, 3) := by decide +kernel
theorem dX12_ages_114 : decode cX12_ages 114 = .ok (.istore 4, 2) := by decide +kernel
theorem dX12_ages_116 : decode cX12_ages 116 = .ok (.aload_n 0, 1) := by decide +kernel
theorem dX12_ages_117 : decode cX12_ages 117 = .ok (.invokevirtual 227, 3) := by decide +kernel
theorem dX12_ages_120 : decode cX12_ages 120 = .ok (.istore 5, 2) := by decide +kernel
theorem dX12_ages_122 : decode cX12_ages 122 = .ok (.aload_n 0, 1) := by decide +kernel
theorem dX12_ages_123 : decode cX12_ages 123 = .ok (.invokevirtual 190, 3) := by decide +kernel
theorem dX12_ages_126 : decode cX12_ages 126 = .ok (.iload_n 3, 1) := by decide +kernel
theorem dX12_ages_127 : decode cX12_ages 127 = .ok (.ifCond .ne 8, 3) := by decide +kernel
theorem dX12_ages_130 : decode cX12_ages 130 = .ok (.iload 4, 2) := by decide +kernel
theorem dX12_ages_132 : decode cX12_ages 132 = .ok (.goto 17, 3) := by decide +kernel
theorem dX12_ages_135 : decode cX12_ages 135 = .ok (.iload_n 3, 1) := by decide +kernel
theorem dX12_ages_136 : decode cX12_ages 136 = .ok (.iconst 1, 1) := by decide +kernel
theorem dX12_ages_137 : decode cX12_ages 137 = .ok (.if_icmp .ne 8, 3) := by decide +kernel
theorem dX12_ages_140 : decode cX12_ages 140 = .ok (.iload 5, 2) := by decide +kernel
theorem dX12_ages_142 : decode cX12_ages 142 = .ok (.goto 7, 3) := by decide +kernel
theorem dX12_ages_145 : decode cX12_ages 145 = .ok (.aload_n 0, 1) := by decide +kernel
theorem dX12_ages_146 : decode cX12_ages 146 = .ok (.getfield 212, 3) := by decide +kernel
theorem dX12_ages_149 : decode cX12_ages 149 = .ok (.ireturn, 1) := by decide +kernel
set_option maxRecDepth 20000 in
theorem ggX12_image_X12_lacks : GoodIn wsX12_image wsX12_lacks := goodIn_r _ [27, 28, 32, 33, 34, 35, 36, 37, 38, 39, 40, 41, 42, 43, 44, 45, 46, 47, 48, 49, 50, 51, 52, 53, 54, 55, 56, 57, 58, 59, 60, 61, 62, 63, 64, 65, 66, 67, 68, 69] (by decide +kernel) (by decide +kernel)
set_option maxRecDepth 20000 in
theorem gX12_image_X12_lacks : GoodIn wsX12_image (wsV RX12 155 RX12 yX12_lacks wsX12_lacks) := goodIn_app (goodIn_of _ (by decide +kernel)) ggX12_image_X12_lacks
set_option maxRecDepth 20000 in
theorem ggX12_image_X12_copy : GoodIn wsX12_image wsX12_copy := goodIn_r _ [31] (by decide +kernel) (by decide +kernel)
set_option maxRecDepth 20000 in
theorem gX12_image_X12_copy : GoodIn wsX12_image (va_wsS RX12 180 yX12_copy wsX12_copy) := goodIn_app (goodIn_of _ (by decide +kernel)) ggX12_image_X12_copy
theorem dX12_image_0 : decode cX12_image 0 = .ok (.aload_n 0, 1) := by decide +kernel
theorem dX12_image_1 : decode cX12_image 1 = .ok (.invokevirtual 155, 3) := by decide +kernel
theorem dX12_image_4 : decode cX12_image 4 = .ok (.ifCond .eq 6, 3) := by decide +kernel
theorem dX12_image_7 : decode cX12_image 7 = .ok (.bipush (-103), 2) := by decide +kernel
theorem dX12_image_9 : decode cX12_image 9 = .ok (.ireturn, 1) := by decide +kernel
theorem dX12_image_10 : decode cX12_image 10 = .ok (.aload_n 0, 1) := by decide +kernel
theorem dX12_image_11 : decode cX12_image 11 = .ok (.getfield 19, 3) := by decide +kernel
theorem dX12_image_14 : decode cX12_image 14 = .ok (.aload_n 0, 1) := by decide +kernel
theorem dX12_image_15 : decode cX12_image 15 = .ok (.getfield 52, 3) := by decide +kernel
theorem dX12_image_18 : decode cX12_image 18 = .ok (.invokestatic 180, 3) := by decide +kernel
theorem dX12_image_21 : decode cX12_image 21 = .ok (.aload_n 0, 1) := by decide +kernel
theorem dX12_image_22 : decode cX12_image 22 = .ok (.getfield 22, 3) := by decide +kernel
theorem dX12_image_25 : decode cX12_image 25 = .ok (.aload_n 0, 1) := by decide +kernel
theorem dX12_image_26 : decode cX12_image 26 = .ok (.getfield 55, 3) := by decide +kernel
theorem dX12_image_29 : decode cX12_image 29 = .ok (.invokestatic 180, 3) := by decide +kernel
theorem dX12_image_32 : decode cX12_image 32 = .ok (.aload_n 0, 1) := by decide +kernel
theorem dX12_image_33 : decode cX12_image 33 = .ok (.getfield 25, 3) := by decide +kernel
theorem dX12_image_36 : decode cX12_image 36 = .ok (.aload_n 0, 1) := by decide +kernel
theorem dX12_image_37 : decode cX12_image 37 = .ok (.getfield 58, 3) := by decide +kernel
theorem dX12_image_40 : decode cX12_image 40 = .ok (.invokestatic 180, 3) := by decide +kernel
theorem dX12_image_43 : decode cX12_image 43 = .ok (.aload_n 0, 1) := by decide +kernel
theorem dX12_image_44 : decode cX12_image 44 = .ok (.getfield 28, 3) := by decide +kernel
theorem dX12_image_47 : decode cX12_image 47 = .ok (.aload_n 0, 1) := by decide +kernel
theorem dX12_image_48 : decode cX12_image 48 = .ok (.getfield 61, 3) := by decide +kernel
theorem dX12_image_51 : decode cX12_image 51 = .ok (.invokestatic 180, 3) := by decide +kernel
theorem dX12_image_54 : decode cX12_image 54 = .ok (.aload_n 0, 1) := by decide +kernel
theorem dX12_image_55 : decode cX12_image 55 = .ok (.getfield 46, 3) := by decide +kernel
theorem dX12_image_58 : decode cX12_image 58 = .ok (.aload_n 0, 1) := by decide +kernel
theorem dX12_image_59 : decode cX12_image 59 = .ok (.getfield 64, 3) := by decide +kernel
theorem dX12_image_62 : decode cX12_image 62 = .ok (.invokestatic 180, 3) := by decide +kernel
theorem dX12_image_65 : decode cX12_image 65 = .ok (.aload_n 0, 1) := by decide +kernel
theorem dX12_image_66 : decode cX12_image 66 = .ok (.aload_n 0, 1) := by decide +kernel
theorem dX12_image_67 : decode cX12_image 67 = .ok (.getfield 108, 3) := by decide +kernel
theorem dX12_image_70 : decode cX12_image 70 = .ok (.putfield 230, 3) := by decide +kernel
theorem dX12_image_73 : decode cX12_image 73 = .ok (.aload_n 0, 1) := by decide +kernel
theorem dX12_image_74 : decode cX12_image 74 = .ok (.aload_n 0, 1) := by decide +kernel
theorem dX12_image_75 : decode cX12_image 75 = .ok (.getfield 111, 3) := by decide +kernel
theorem dX12_image_78 : decode cX12_image 78 = .ok (.putfield 233, 3) := by decide +kernel
theorem dX12_image_81 : decode cX12_image 81 = .ok (.aload_n 0, 1) := by decide +kernel
theorem dX12_image_82 : decode cX12_image 82 = .ok (.aload_n 0, 1) := by decide +kernel
theorem dX12_image_83 : decode cX12_image 83 = .ok (.getfield 114, 3) := by decide +kernel
theorem dX12_image_86 : decode cX12_image 86 = .ok (.putfield 236, 3) := by decide +kernel
theorem dX12_image_89 : decode cX12_image 89 = .ok (.aload_n 0, 1) := by decide +kernel
theorem dX12_image_90 : decode cX12_image 90 = .ok (.aload_n 0, 1) := by decide +kernel
theorem dX12_image_91 : decode cX12_image 91 = .ok (.getfield 117, 3) := by decide +kernel
theorem dX12_image_94 : decode cX12_image 94 = .ok (.putfield 239, 3) := by decide +kernel
theorem dX12_image_97 : decode cX12_image 97 = .ok (.aload_n 0, 1) := by decide +kernel
theorem dX12_image_98 : decode cX12_image 98 = .ok (.aload_n 0, 1) := by decide +kernel
theorem dX12_image_99 : decode cX12_image 99 = .ok (.getfield 120, 3) := by decide +kernel
theorem dX12_image_102 : decode cX12_image 102 = .ok (.putfield 242, 3) := by decide +kernel
theorem dX12_image_105 : decode cX12_image 105 = .ok (.aload_n 0, 1) := by decide +kernel
theorem dX12_image_106 : decode cX12_image 106 = .ok (.aload_n 0, 1) := by decide +kernel
theorem dX12_image_107 : decode cX12_image 107 = .ok (.getfield 123, 3) := by decide +kernel
theorem dX12_image_110 : decode cX12_image 110 = .ok (.putfield 67, 3) := by decide +kernel
theorem dX12_image_113 : decode cX12_image 113 = .ok (.aload_n 0, 1) := by decide +kernel
theorem dX12_image_114 : decode cX12_image 114 = .ok (.getfield 111, 3) := by decide +kernel
theorem dX12_image_117 : decode cX12_image 117 = .ok (.ireturn, 1) := by decide +kernel
set_option maxRecDepth 20000 in
theorem ggX12_restore_X12_copy : GoodIn wsX12_restore wsX12_copy := goodIn_r _ [26] (by decide +kernel) (by decide +kernel)
set_option maxRecDepth 20000 in
theorem gX12_restore_X12_copy : GoodIn wsX12_restore (va_wsS RX12 180 yX12_copy wsX12_copy) := goodIn_app (goodIn_of _ (by decide +kernel)) ggX12_restore_X12_copy
theorem dX12_restore_0 : decode cX12_restore 0 = .ok (.aload_n 0, 1) := by decide +kernel
theorem dX12_restore_1 : decode cX12_restore 1 = .ok (.getfield 67, 3) := by decide +kernel
theorem dX12_restore_4 : decode cX12_restore 4 = .ok (.aload_n 0, 1) := by decide +kernel
theorem dX12_restore_5 : decode cX12_restore 5 = .ok (.getfield 123, 3) := by decide +kernel
theorem dX12_restore_8 : decode cX12_restore 8 = .ok (.if_icmp .eq 6, 3) := by decide +kernel
theorem dX12_restore_11 : decode cX12_restore 11 = .ok (.bipush (-103), 2) := by decide +kernel
theorem dX12_restore_13 : decode cX12_restore 13 = .ok (.ireturn, 1) := by decide +kernel
theorem dX12_restore_14 : decode cX12_restore 14 = .ok (.aload_n 0, 1) := by decide +kernel
theorem dX12_restore_15 : decode cX12_restore 15 = .ok (.getfield 52, 3) := by decide +kernel
theorem dX12_restore_18 : decode cX12_restore 18 = .ok (.aload_n 0, 1) := by decide +kernel
theorem dX12_restore_19 : decode cX12_restore 19 = .ok (.getfield 19, 3) := by decide +kernel
theorem dX12_restore_22 : decode cX12_restore 22 = .ok (.invokestatic 180, 3) := by decide +kernel
theorem dX12_restore_25 : decode cX12_restore 25 = .ok (.aload_n 0, 1) := by decide +kernel
theorem dX12_restore_26 : decode cX12_restore 26 = .ok (.getfield 55, 3) := by decide +kernel
theorem dX12_restore_29 : decode cX12_restore 29 = .ok (.aload_n 0, 1) := by decide +kernel
theorem dX12_restore_30 : decode cX12_restore 30 = .ok (.getfield 22, 3) := by decide +kernel
theorem dX12_restore_33 : decode cX12_restore 33 = .ok (.invokestatic 180, 3) := by decide +kernel
theorem dX12_restore_36 : decode cX12_restore 36 = .ok (.aload_n 0, 1) := by decide +kernel
theorem dX12_restore_37 : decode cX12_restore 37 = .ok (.getfield 58, 3) := by decide +kernel
theorem dX12_restore_40 : decode cX12_restore 40 = .ok (.aload_n 0, 1) := by decide +kernel
theorem dX12_restore_41 : decode cX12_restore 41 = .ok (.getfield 25, 3) := by decide +kernel
theorem dX12_restore_44 : decode cX12_restore 44 = .ok (.invokestatic 180, 3) := by decide +kernel
theorem dX12_restore_47 : decode cX12_restore 47 = .ok (.aload_n 0, 1) := by decide +kernel
theorem dX12_restore_48 : decode cX12_restore 48 = .ok (.getfield 61, 3) := by decide +kernel
theorem dX12_restore_51 : decode cX12_restore 51 = .ok (.aload_n 0, 1) := by decide +kernel
theorem dX12_restore_52 : decode cX12_restore 52 = .ok (.getfield 28, 3) := by decide +kernel
theorem dX12_restore_55 : decode cX12_restore 55 = .ok (.invokestatic 180, 3) := by decide +kernel
theorem dX12_restore_58 : decode cX12_restore 58 = .ok (.aload_n 0, 1) := by decide +kernel
theorem dX12_restore_59 : decode cX12_restore 59 = .ok (.getfield 64, 3) := by decide +kernel
theorem dX12_restore_62 : decode cX12_restore 62 = .ok (.aload_n 0, 1) := by decide +kernel
theorem dX12_restore_63 : decode cX12_restore 63 = .ok (.getfield 46, 3) := by decide +kernel
theorem dX12_restore_66 : decode cX12_restore 66 = .ok (.invokestatic 180, 3) := by decide +kernel
theorem dX12_restore_69 : decode cX12_restore 69 = .ok (.aload_n 0, 1) := by decide +kernel
theorem dX12_restore_70 : decode cX12_restore 70 = .ok (.aload_n 0, 1) := by decide +kernel
theorem dX12_restore_71 : decode cX12_restore 71 = .ok (.getfield 230, 3) := by decide +kernel
theorem dX12_restore_74 : decode cX12_restore 74 = .ok (.putfield 108, 3) := by decide +kernel
theorem dX12_restore_77 : decode cX12_restore 77 = .ok (.aload_n 0, 1) := by decide +kernel
theorem dX12_restore_78 : decode cX12_restore 78 = .ok (.aload_n 0, 1) := by decide +kernel
theorem dX12_restore_79 : decode cX12_restore 79 = .ok (.getfield 233, 3) := by decide +kernel
theorem dX12_restore_82 : decode cX12_restore 82 = .ok (.putfield 111, 3) := by decide +kernel
theorem dX12_restore_85 : decode cX12_restore 85 = .ok (.aload_n 0, 1) := by decide +kernel
theorem dX12_restore_86 : decode cX12_restore 86 = .ok (.aload_n 0, 1) := by decide +kernel
theorem dX12_restore_87 : decode cX12_restore 87 = .ok (.getfield 236, 3) := by decide +kernel
theorem dX12_restore_90 : decode cX12_restore 90 = .ok (.putfield 114, 3) := by decide +kernel
theorem dX12_restore_93 : decode cX12_restore 93 = .ok (.aload_n 0, 1) := by decide +kernel
theorem dX12_restore_94 : decode cX12_restore 94 = .ok (.aload_n 0, 1) := by decide +kernel
theorem dX12_restore_95 : decode cX12_restore 95 = .ok (.getfield 239, 3) := by decide +kernel
theorem dX12_restore_98 : decode cX12_restore 98 = .ok (.putfield 117, 3) := by decide +kernel
theorem dX12_restore_101 : decode cX12_restore 101 = .ok (.aload_n 0, 1) := by decide +kernel
theorem dX12_restore_102 : decode cX12_restore 102 = .ok (.aload_n 0, 1) := by decide +kernel
theorem dX12_restore_103 : decode cX12_restore 103 = .ok (.getfield 242, 3) := by decide +kernel
theorem dX12_restore_106 : decode cX12_restore 106 = .ok (.putfield 120, 3) := by decide +kernel
theorem dX12_restore_109 : decode cX12_restore 109 = .ok (.aload_n 0, 1) := by decide +kernel
theorem dX12_restore_110 : decode cX12_restore 110 = .ok (.getfield 111, 3) := by decide +kernel
theorem dX12_restore_113 : decode cX12_restore 113 = .ok (.ireturn, 1) := by decide +kernel
set_option maxRecDepth 20000 in
theorem ggX12_countOf_X12_cowsAll : GoodIn wsX12_countOf wsX12_cowsAll := goodIn_r _ [13, 1, 14, 20, 21, 22, 23, 24, 25, 26, 27, 28, 29, 30, 31, 32, 33, 34, 35, 36, 37, 38, 39, 40, 41, 42, 43, 44, 45, 46, 47, 48, 49, 50, 51, 52, 53, 54, 55, 56, 57] (by decide +kernel) (by decide +kernel)
set_option maxRecDepth 20000 in
theorem gX12_countOf_X12_cowsAll : GoodIn wsX12_countOf (wsV RX12 227 RX12 yX12_cowsAll wsX12_cowsAll) := goodIn_app (goodIn_of _ (by decide +kernel)) ggX12_countOf_X12_cowsAll
set_option maxRecDepth 20000 in
theorem ggX12_countOf_X12_owedAll : GoodIn wsX12_countOf wsX12_owedAll := goodIn_r _ [18, 19, 20, 21, 22, 23, 24, 25, 26, 27, 28, 29, 30, 31, 32, 33, 34, 35, 36, 37, 38, 39, 40, 41, 42, 43, 44, 45, 46, 47, 48, 49, 50, 51, 52, 53, 54, 55, 56, 57] (by decide +kernel) (by decide +kernel)
set_option maxRecDepth 20000 in
theorem gX12_countOf_X12_owedAll : GoodIn wsX12_countOf (wsV RX12 174 RX12 yX12_owedAll wsX12_owedAll) := goodIn_app (goodIn_of _ (by decide +kernel)) ggX12_countOf_X12_owedAll
theorem dX12_countOf_0 : decode cX12_countOf 0 = .ok (.iload_n 1, 1) := by decide +kernel
theorem dX12_countOf_1 : decode cX12_countOf 1 = .ok (.tableswitch 105 0 9 #[55, 60, 65, 70, 75, 80, 85, 90, 95, 100], 55) := by decide +kernel
theorem dX12_countOf_56 : decode cX12_countOf 56 = .ok (.aload_n 0, 1) := by decide +kernel
theorem dX12_countOf_57 : decode cX12_countOf 57 = .ok (.getfield 105, 3) := by decide +kernel
theorem dX12_countOf_60 : decode cX12_countOf 60 = .ok (.ireturn, 1) := by decide +kernel
theorem dX12_countOf_61 : decode cX12_countOf 61 = .ok (.aload_n 0, 1) := by decide +kernel
theorem dX12_countOf_62 : decode cX12_countOf 62 = .ok (.getfield 108, 3) := by decide +kernel
theorem dX12_countOf_65 : decode cX12_countOf 65 = .ok (.ireturn, 1) := by decide +kernel
theorem dX12_countOf_66 : decode cX12_countOf 66 = .ok (.aload_n 0, 1) := by decide +kernel
theorem dX12_countOf_67 : decode cX12_countOf 67 = .ok (.invokevirtual 227, 3) := by decide +kernel
theorem dX12_countOf_70 : decode cX12_countOf 70 = .ok (.ireturn, 1) := by decide +kernel
theorem dX12_countOf_71 : decode cX12_countOf 71 = .ok (.aload_n 0, 1) := by decide +kernel
theorem dX12_countOf_72 : decode cX12_countOf 72 = .ok (.invokevirtual 174, 3) := by decide +kernel
theorem dX12_countOf_75 : decode cX12_countOf 75 = .ok (.ireturn, 1) := by decide +kernel
theorem dX12_countOf_76 : decode cX12_countOf 76 = .ok (.aload_n 0, 1) := by decide +kernel
theorem dX12_countOf_77 : decode cX12_countOf 77 = .ok (.getfield 114, 3) := by decide +kernel
theorem dX12_countOf_80 : decode cX12_countOf 80 = .ok (.ireturn, 1) := by decide +kernel
theorem dX12_countOf_81 : decode cX12_countOf 81 = .ok (.aload_n 0, 1) := by decide +kernel
theorem dX12_countOf_82 : decode cX12_countOf 82 = .ok (.getfield 111, 3) := by decide +kernel
theorem dX12_countOf_85 : decode cX12_countOf 85 = .ok (.ireturn, 1) := by decide +kernel
theorem dX12_countOf_86 : decode cX12_countOf 86 = .ok (.aload_n 0, 1) := by decide +kernel
theorem dX12_countOf_87 : decode cX12_countOf 87 = .ok (.getfield 117, 3) := by decide +kernel
theorem dX12_countOf_90 : decode cX12_countOf 90 = .ok (.ireturn, 1) := by decide +kernel
theorem dX12_countOf_91 : decode cX12_countOf 91 = .ok (.aload_n 0, 1) := by decide +kernel
theorem dX12_countOf_92 : decode cX12_countOf 92 = .ok (.getfield 120, 3) := by decide +kernel
theorem dX12_countOf_95 : decode cX12_countOf 95 = .ok (.ireturn, 1) := by decide +kernel
theorem dX12_countOf_96 : decode cX12_countOf 96 = .ok (.aload_n 0, 1) := by decide +kernel
theorem dX12_countOf_97 : decode cX12_countOf 97 = .ok (.getfield 77, 3) := by decide +kernel
theorem dX12_countOf_100 : decode cX12_countOf 100 = .ok (.ireturn, 1) := by decide +kernel
theorem dX12_countOf_101 : decode cX12_countOf 101 = .ok (.aload_n 0, 1) := by decide +kernel
theorem dX12_countOf_102 : decode cX12_countOf 102 = .ok (.getfield 123, 3) := by decide +kernel
theorem dX12_countOf_105 : decode cX12_countOf 105 = .ok (.ireturn, 1) := by decide +kernel
theorem dX12_countOf_106 : decode cX12_countOf 106 = .ok (.bipush (-102), 2) := by decide +kernel
theorem dX12_countOf_108 : decode cX12_countOf 108 = .ok (.ireturn, 1) := by decide +kernel
set_option maxRecDepth 20000 in
theorem ggX12_count_X12_countOf : GoodIn wsX12_count wsX12_countOf := goodIn_r _ [5, 6, 7, 8, 9, 10, 11, 12, 13, 14, 15, 16, 4, 17, 18, 19, 20, 21, 22, 23, 24, 25, 26, 27, 28, 29, 30, 31, 32, 33, 34, 35, 36, 37, 38, 39, 40, 41, 42, 43, 44, 45, 46, 47, 48, 49, 50, 51, 52, 53, 54, 55, 56, 57, 58, 59, 60, 61] (by decide +kernel) (by decide +kernel)
set_option maxRecDepth 20000 in
theorem gX12_count_X12_countOf : GoodIn wsX12_count (wsV RX12 245 RX12 yX12_countOf wsX12_countOf) := goodIn_app (goodIn_of _ (by decide +kernel)) ggX12_count_X12_countOf
theorem dX12_count_0 : decode cX12_count 0 = .ok (.aload_n 0, 1) := by decide +kernel
theorem dX12_count_1 : decode cX12_count 1 = .ok (.iload_n 1, 1) := by decide +kernel
theorem dX12_count_2 : decode cX12_count 2 = .ok (.invokevirtual 245, 3) := by decide +kernel
theorem dX12_count_5 : decode cX12_count 5 = .ok (.ireturn, 1) := by decide +kernel
theorem dX12_say_0 : decode cX12_say 0 = .ok (.aload_n 0, 1) := by decide +kernel
theorem dX12_say_1 : decode cX12_say 1 = .ok (.ldc2_w 248, 3) := by decide +kernel
theorem dX12_say_4 : decode cX12_say 4 = .ok (.aload_n 0, 1) := by decide +kernel
theorem dX12_say_5 : decode cX12_say 5 = .ok (.getfield 250, 3) := by decide +kernel
theorem dX12_say_8 : decode cX12_say 8 = .ok (.lmul, 1) := by decide +kernel
theorem dX12_say_9 : decode cX12_say 9 = .ok (.lload_n 1, 1) := by decide +kernel
theorem dX12_say_10 : decode cX12_say 10 = .ok (.ladd, 1) := by decide +kernel
theorem dX12_say_11 : decode cX12_say 11 = .ok (.putfield 250, 3) := by decide +kernel
theorem dX12_say_14 : decode cX12_say 14 = .ok (.return_, 1) := by decide +kernel
set_option maxRecDepth 20000 in
theorem ggX12_sayClan_X12_clanOf : GoodIn wsX12_sayClan wsX12_clanOf := goodIn_r _ [5, 6, 7, 8, 9, 10, 11, 12, 13, 4, 14, 15, 16, 17, 18, 19, 20, 21, 22, 23, 24, 25, 26, 27, 28, 29, 36, 37, 38, 39, 40, 41, 42, 43, 44, 45, 46, 47, 48, 49, 50, 51, 52, 53, 54, 55, 56, 57, 58, 59, 60, 61, 62, 63, 64, 65, 66, 67, 68, 69, 70, 71, 72, 73] (by decide +kernel) (by decide +kernel)
set_option maxRecDepth 20000 in
theorem gX12_sayClan_X12_clanOf : GoodIn wsX12_sayClan (wsV RX12 150 RX12 yX12_clanOf wsX12_clanOf) := goodIn_app (goodIn_of _ (by decide +kernel)) ggX12_sayClan_X12_clanOf
set_option maxRecDepth 20000 in
theorem ggX12_sayClan_X12_say : GoodIn wsX12_sayClan wsX12_say := goodIn_r _ [33, 34, 35, 36, 37, 38, 39, 40, 41, 42, 43, 44, 45, 46, 47, 48, 49, 50, 51, 52, 53, 54, 55, 56, 57, 58, 59, 60, 61, 62, 63, 64, 65, 66, 67, 68, 69, 70, 71, 72, 73] (by decide +kernel) (by decide +kernel)
set_option maxRecDepth 20000 in
theorem gX12_sayClan_X12_say : GoodIn wsX12_sayClan (wsV RX12 254 RX12 yX12_say wsX12_say) := goodIn_app (goodIn_of _ (by decide +kernel)) ggX12_sayClan_X12_say
theorem dX12_sayClan_0 : decode cX12_sayClan 0 = .ok (.iconst 0, 1) := by decide +kernel
theorem dX12_sayClan_1 : decode cX12_sayClan 1 = .ok (.istore_n 2, 1) := by decide +kernel
theorem dX12_sayClan_2 : decode cX12_sayClan 2 = .ok (.iload_n 2, 1) := by decide +kernel
theorem dX12_sayClan_3 : decode cX12_sayClan 3 = .ok (.bipush 14, 2) := by decide +kernel
theorem dX12_sayClan_5 : decode cX12_sayClan 5 = .ok (.if_icmp .ge 32, 3) := by decide +kernel
theorem dX12_sayClan_8 : decode cX12_sayClan 8 = .ok (.iload_n 2, 1) := by decide +kernel
theorem dX12_sayClan_9 : decode cX12_sayClan 9 = .ok (.bipush 7, 2) := by decide +kernel
theorem dX12_sayClan_11 : decode cX12_sayClan 11 = .ok (.if_icmp .lt 9, 3) := by decide +kernel
theorem dX12_sayClan_14 : decode cX12_sayClan 14 = .ok (.iload_n 2, 1) := by decide +kernel
theorem dX12_sayClan_15 : decode cX12_sayClan 15 = .ok (.bipush 9, 2) := by decide +kernel
theorem dX12_sayClan_17 : decode cX12_sayClan 17 = .ok (.if_icmp .le 14, 3) := by decide +kernel
theorem dX12_sayClan_20 : decode cX12_sayClan 20 = .ok (.aload_n 0, 1) := by decide +kernel
theorem dX12_sayClan_21 : decode cX12_sayClan 21 = .ok (.aload_n 0, 1) := by decide +kernel
theorem dX12_sayClan_22 : decode cX12_sayClan 22 = .ok (.iload_n 1, 1) := by decide +kernel
theorem dX12_sayClan_23 : decode cX12_sayClan 23 = .ok (.iload_n 2, 1) := by decide +kernel
theorem dX12_sayClan_24 : decode cX12_sayClan 24 = .ok (.invokevirtual 150, 3) := by decide +kernel
theorem dX12_sayClan_27 : decode cX12_sayClan 27 = .ok (.i2l, 1) := by decide +kernel
theorem dX12_sayClan_28 : decode cX12_sayClan 28 = .ok (.invokevirtual 254, 3) := by decide +kernel
theorem dX12_sayClan_31 : decode cX12_sayClan 31 = .ok (.iinc 2 1, 3) := by decide +kernel
theorem dX12_sayClan_34 : decode cX12_sayClan 34 = .ok (.goto (-32), 3) := by decide +kernel
theorem dX12_sayClan_37 : decode cX12_sayClan 37 = .ok (.return_, 1) := by decide +kernel
set_option maxRecDepth 20000 in
theorem ggX12_digest_X12_sayClan : GoodIn wsX12_digest wsX12_sayClan := goodIn_r _ [12, 13, 14, 15, 11, 16, 17, 18, 19, 20, 21, 22, 23, 24, 25, 26, 27, 28, 29, 30, 31, 32, 33, 34, 35, 36, 37, 38, 39, 40, 41, 42, 43, 44, 45, 2, 125, 126, 127, 128, 129, 130, 131, 132, 133, 134, 135, 136, 137, 138, 139, 140, 141, 142, 143, 144, 145, 146, 147, 148, 149, 150, 151, 152, 153, 154, 155, 156, 157, 158, 159, 160, 161, 162] (by decide +kernel) (by decide +kernel)
set_option maxRecDepth 20000 in
theorem gX12_digest_X12_sayClan : GoodIn wsX12_digest (wsV RX12 260 RX12 yX12_sayClan wsX12_sayClan) := goodIn_app (goodIn_of _ (by decide +kernel)) ggX12_digest_X12_sayClan
set_option maxRecDepth 20000 in
theorem ggX12_digest_X12_say : GoodIn wsX12_digest wsX12_say := goodIn_r _ [44, 45, 2, 125, 126, 127, 128, 129, 130, 131, 132, 133, 134, 135, 136, 137, 138, 139, 140, 141, 142, 143, 144, 145, 146, 147, 148, 149, 150, 151, 152, 153, 154, 155, 156, 157, 158, 159, 160, 161, 162] (by decide +kernel) (by decide +kernel)
set_option maxRecDepth 20000 in
theorem gX12_digest_X12_say : GoodIn wsX12_digest (wsV RX12 254 RX12 yX12_say wsX12_say) := goodIn_app (goodIn_of _ (by decide +kernel)) ggX12_digest_X12_say
set_option maxRecDepth 20000 in
theorem ggX12_digest_X12_lacks : GoodIn wsX12_digest wsX12_lacks := goodIn_r _ [49, 3, 125, 126, 127, 128, 129, 130, 131, 132, 133, 134, 135, 136, 137, 138, 139, 140, 141, 142, 143, 144, 145, 146, 147, 148, 149, 150, 151, 152, 153, 154, 155, 156, 157, 158, 159, 160, 161, 162] (by decide +kernel) (by decide +kernel)
set_option maxRecDepth 20000 in
theorem gX12_digest_X12_lacks : GoodIn wsX12_digest (wsV RX12 155 RX12 yX12_lacks wsX12_lacks) := goodIn_app (goodIn_of _ (by decide +kernel)) ggX12_digest_X12_lacks
set_option maxRecDepth 20000 in
theorem ggX12_digest_X12_settledOf : GoodIn wsX12_digest wsX12_settledOf := goodIn_r _ [53, 3, 37, 38, 39, 11, 40, 19, 33, 34, 35, 36, 125, 126, 127, 128, 129, 130, 131, 132, 133, 134, 135, 136, 137, 138, 139, 140, 141, 142, 143, 144, 145, 146, 147, 148, 149, 150, 151, 152, 153, 154, 155, 156, 157, 158, 159, 160, 161, 162] (by decide +kernel) (by decide +kernel)
set_option maxRecDepth 20000 in
theorem gX12_digest_X12_settledOf : GoodIn wsX12_digest (wsV RX12 177 RX12 yX12_settledOf wsX12_settledOf) := goodIn_app (goodIn_of _ (by decide +kernel)) ggX12_digest_X12_settledOf
set_option maxRecDepth 20000 in
theorem ggX12_digest_X12_orderOf : GoodIn wsX12_digest wsX12_orderOf := goodIn_r _ [57, 58, 59, 60, 61, 62, 11, 63, 64, 65, 22, 66, 67, 68, 69, 21, 70, 19, 71, 72, 73, 74, 75, 76, 77, 78, 79, 80, 81, 82, 20, 26, 27, 28, 83, 84, 85, 86, 87, 88, 89, 90, 29, 30, 31, 32, 91, 92, 93, 94, 95, 96, 97, 98, 125, 126, 127, 128, 129, 130, 131, 132, 133, 134, 135, 136, 137, 138, 139, 140, 141, 142, 143, 144, 145, 146, 147, 148, 149, 150, 151, 152, 153, 154, 155, 156, 157, 158, 159, 160, 161, 162] (by decide +kernel) (by decide +kernel)
set_option maxRecDepth 20000 in
theorem gX12_digest_X12_orderOf : GoodIn wsX12_digest (wsV RX12 196 RX12 yX12_orderOf wsX12_orderOf) := goodIn_app (goodIn_of _ (by decide +kernel)) ggX12_digest_X12_orderOf
set_option maxRecDepth 20000 in
theorem ggX12_digest_X12_highOf : GoodIn wsX12_digest wsX12_highOf := goodIn_r _ [102, 3, 103, 58, 64, 33, 34, 35, 11, 36, 19, 66, 67, 68, 69, 21, 70, 71, 72, 73, 74, 79, 80, 81, 82, 20, 26, 27, 28, 83, 84, 85, 86, 87, 88, 89, 90, 29, 30, 31, 32, 95, 96, 97, 98, 125, 126, 127, 128, 129, 130, 131, 132, 133, 134, 135, 136, 137, 138, 139, 140, 141, 142, 143, 144, 145, 146, 147, 148, 149, 150, 151, 152, 153, 154, 155, 156, 157, 158, 159, 160, 161, 162] (by decide +kernel) (by decide +kernel)
set_option maxRecDepth 20000 in
theorem gX12_digest_X12_highOf : GoodIn wsX12_digest (wsV RX12 199 RX12 yX12_highOf wsX12_highOf) := goodIn_app (goodIn_of _ (by decide +kernel)) ggX12_digest_X12_highOf
set_option maxRecDepth 20000 in
theorem ggX12_digest_X12_whichOf : GoodIn wsX12_digest wsX12_whichOf := goodIn_r _ [107, 108, 109, 26, 27, 11, 28, 125, 126, 127, 128, 129, 130, 131, 132, 133, 134, 135, 136, 137, 138, 139, 140, 141, 142, 143, 144, 145, 146, 147, 148, 149, 150, 151, 152, 153, 154, 155, 156, 157, 158, 159, 160, 161, 162] (by decide +kernel) (by decide +kernel)
set_option maxRecDepth 20000 in
theorem gX12_digest_X12_whichOf : GoodIn wsX12_digest (wsV RX12 204 RX12 yX12_whichOf wsX12_whichOf) := goodIn_app (goodIn_of _ (by decide +kernel)) ggX12_digest_X12_whichOf
set_option maxRecDepth 20000 in
theorem ggX12_digest_X12_askOf : GoodIn wsX12_digest wsX12_askOf := goodIn_r _ [113, 114, 104, 105, 106, 11, 107, 108, 109, 26, 27, 28, 125, 126, 127, 128, 129, 130, 131, 132, 133, 134, 135, 136, 137, 138, 139, 140, 141, 142, 143, 144, 145, 146, 147, 148, 149, 150, 151, 152, 153, 154, 155, 156, 157, 158, 159, 160, 161, 162] (by decide +kernel) (by decide +kernel)
set_option maxRecDepth 20000 in
theorem gX12_digest_X12_askOf : GoodIn wsX12_digest (wsV RX12 207 RX12 yX12_askOf wsX12_askOf) := goodIn_app (goodIn_of _ (by decide +kernel)) ggX12_digest_X12_askOf
set_option maxRecDepth 20000 in
theorem ggX12_digest_X12_countOf : GoodIn wsX12_digest wsX12_countOf := goodIn_r _ [118, 3, 22, 4, 119, 58, 108, 6, 120, 121, 122, 123, 11, 124, 21, 91, 92, 93, 94, 19, 125, 126, 127, 128, 129, 130, 131, 132, 133, 134, 135, 136, 137, 138, 139, 140, 141, 142, 143, 144, 145, 146, 147, 148, 149, 150, 151, 152, 153, 154, 155, 156, 157, 158, 159, 160, 161, 162] (by decide +kernel) (by decide +kernel)
set_option maxRecDepth 20000 in
theorem gX12_digest_X12_countOf : GoodIn wsX12_digest (wsV RX12 245 RX12 yX12_countOf wsX12_countOf) := goodIn_app (goodIn_of _ (by decide +kernel)) ggX12_digest_X12_countOf
theorem dX12_digest_0 : decode cX12_digest 0 = .ok (.aload_n 0, 1) := by decide +kernel
theorem dX12_digest_1 : decode cX12_digest 1 = .ok (.ldc2_w 258, 3) := by decide +kernel
theorem dX12_digest_4 : decode cX12_digest 4 = .ok (.putfield 250, 3) := by decide +kernel
theorem dX12_digest_7 : decode cX12_digest 7 = .ok (.iconst 0, 1) := by decide +kernel
theorem dX12_digest_8 : decode cX12_digest 8 = .ok (.istore_n 1, 1) := by decide +kernel
theorem dX12_digest_9 : decode cX12_digest 9 = .ok (.iload_n 1, 1) := by decide +kernel
theorem dX12_digest_10 : decode cX12_digest 10 = .ok (.aload_n 0, 1) := by decide +kernel
theorem dX12_digest_11 : decode cX12_digest 11 = .ok (.getfield 105, 3) := by decide +kernel
theorem dX12_digest_14 : decode cX12_digest 14 = .ok (.if_icmp .ge 14, 3) := by decide +kernel
theorem dX12_digest_17 : decode cX12_digest 17 = .ok (.aload_n 0, 1) := by decide +kernel
theorem dX12_digest_18 : decode cX12_digest 18 = .ok (.iload_n 1, 1) := by decide +kernel
theorem dX12_digest_19 : decode cX12_digest 19 = .ok (.invokevirtual 260, 3) := by decide +kernel
theorem dX12_digest_22 : decode cX12_digest 22 = .ok (.iinc 1 1, 3) := by decide +kernel
theorem dX12_digest_25 : decode cX12_digest 25 = .ok (.goto (-16), 3) := by decide +kernel
theorem dX12_digest_28 : decode cX12_digest 28 = .ok (.iconst 0, 1) := by decide +kernel
theorem dX12_digest_29 : decode cX12_digest 29 = .ok (.istore_n 1, 1) := by decide +kernel
theorem dX12_digest_30 : decode cX12_digest 30 = .ok (.iload_n 1, 1) := by decide +kernel
theorem dX12_digest_31 : decode cX12_digest 31 = .ok (.iconst 4, 1) := by decide +kernel
theorem dX12_digest_32 : decode cX12_digest 32 = .ok (.aload_n 0, 1) := by decide +kernel
theorem dX12_digest_33 : decode cX12_digest 33 = .ok (.getfield 114, 3) := by decide +kernel
theorem dX12_digest_36 : decode cX12_digest 36 = .ok (.imul, 1) := by decide +kernel
theorem dX12_digest_37 : decode cX12_digest 37 = .ok (.if_icmp .ge 20, 3) := by decide +kernel
theorem dX12_digest_40 : decode cX12_digest 40 = .ok (.aload_n 0, 1) := by decide +kernel
theorem dX12_digest_41 : decode cX12_digest 41 = .ok (.aload_n 0, 1) := by decide +kernel
theorem dX12_digest_42 : decode cX12_digest 42 = .ok (.getfield 25, 3) := by decide +kernel
theorem dX12_digest_45 : decode cX12_digest 45 = .ok (.iload_n 1, 1) := by decide +kernel
theorem dX12_digest_46 : decode cX12_digest 46 = .ok (.iaload, 1) := by decide +kernel
theorem dX12_digest_47 : decode cX12_digest 47 = .ok (.i2l, 1) := by decide +kernel
theorem dX12_digest_48 : decode cX12_digest 48 = .ok (.invokevirtual 254, 3) := by decide +kernel
theorem dX12_digest_51 : decode cX12_digest 51 = .ok (.iinc 1 1, 3) := by decide +kernel
theorem dX12_digest_54 : decode cX12_digest 54 = .ok (.goto (-24), 3) := by decide +kernel
theorem dX12_digest_57 : decode cX12_digest 57 = .ok (.aload_n 0, 1) := by decide +kernel
theorem dX12_digest_58 : decode cX12_digest 58 = .ok (.invokevirtual 155, 3) := by decide +kernel
theorem dX12_digest_61 : decode cX12_digest 61 = .ok (.ifCond .ne 56, 3) := by decide +kernel
theorem dX12_digest_64 : decode cX12_digest 64 = .ok (.aload_n 0, 1) := by decide +kernel
theorem dX12_digest_65 : decode cX12_digest 65 = .ok (.aload_n 0, 1) := by decide +kernel
theorem dX12_digest_66 : decode cX12_digest 66 = .ok (.invokevirtual 177, 3) := by decide +kernel
theorem dX12_digest_69 : decode cX12_digest 69 = .ok (.i2l, 1) := by decide +kernel
theorem dX12_digest_70 : decode cX12_digest 70 = .ok (.invokevirtual 254, 3) := by decide +kernel
theorem dX12_digest_73 : decode cX12_digest 73 = .ok (.aload_n 0, 1) := by decide +kernel
theorem dX12_digest_74 : decode cX12_digest 74 = .ok (.aload_n 0, 1) := by decide +kernel
theorem dX12_digest_75 : decode cX12_digest 75 = .ok (.iconst 0, 1) := by decide +kernel
theorem dX12_digest_76 : decode cX12_digest 76 = .ok (.invokevirtual 196, 3) := by decide +kernel
theorem dX12_digest_79 : decode cX12_digest 79 = .ok (.i2l, 1) := by decide +kernel
theorem dX12_digest_80 : decode cX12_digest 80 = .ok (.invokevirtual 254, 3) := by decide +kernel
theorem dX12_digest_83 : decode cX12_digest 83 = .ok (.bipush 10, 2) := by decide +kernel
theorem dX12_digest_85 : decode cX12_digest 85 = .ok (.istore_n 1, 1) := by decide +kernel
theorem dX12_digest_86 : decode cX12_digest 86 = .ok (.iload_n 1, 1) := by decide +kernel
theorem dX12_digest_87 : decode cX12_digest 87 = .ok (.bipush 14, 2) := by decide +kernel
theorem dX12_digest_89 : decode cX12_digest 89 = .ok (.if_icmp .ge 19, 3) := by decide +kernel
theorem dX12_digest_92 : decode cX12_digest 92 = .ok (.aload_n 0, 1) := by decide +kernel
theorem dX12_digest_93 : decode cX12_digest 93 = .ok (.aload_n 0, 1) := by decide +kernel
theorem dX12_digest_94 : decode cX12_digest 94 = .ok (.iload_n 1, 1) := by decide +kernel
theorem dX12_digest_95 : decode cX12_digest 95 = .ok (.invokevirtual 196, 3) := by decide +kernel
theorem dX12_digest_98 : decode cX12_digest 98 = .ok (.i2l, 1) := by decide +kernel
theorem dX12_digest_99 : decode cX12_digest 99 = .ok (.invokevirtual 254, 3) := by decide +kernel
theorem dX12_digest_102 : decode cX12_digest 102 = .ok (.iinc 1 1, 3) := by decide +kernel
theorem dX12_digest_105 : decode cX12_digest 105 = .ok (.goto (-19), 3) := by decide +kernel
theorem dX12_digest_108 : decode cX12_digest 108 = .ok (.aload_n 0, 1) := by decide +kernel
theorem dX12_digest_109 : decode cX12_digest 109 = .ok (.aload_n 0, 1) := by decide +kernel
theorem dX12_digest_110 : decode cX12_digest 110 = .ok (.invokevirtual 199, 3) := by decide +kernel
theorem dX12_digest_113 : decode cX12_digest 113 = .ok (.i2l, 1) := by decide +kernel
theorem dX12_digest_114 : decode cX12_digest 114 = .ok (.invokevirtual 254, 3) := by decide +kernel
theorem dX12_digest_117 : decode cX12_digest 117 = .ok (.aload_n 0, 1) := by decide +kernel
theorem dX12_digest_118 : decode cX12_digest 118 = .ok (.aload_n 0, 1) := by decide +kernel
theorem dX12_digest_119 : decode cX12_digest 119 = .ok (.invokevirtual 204, 3) := by decide +kernel
theorem dX12_digest_122 : decode cX12_digest 122 = .ok (.i2l, 1) := by decide +kernel
theorem dX12_digest_123 : decode cX12_digest 123 = .ok (.invokevirtual 254, 3) := by decide +kernel
theorem dX12_digest_126 : decode cX12_digest 126 = .ok (.aload_n 0, 1) := by decide +kernel
theorem dX12_digest_127 : decode cX12_digest 127 = .ok (.aload_n 0, 1) := by decide +kernel
theorem dX12_digest_128 : decode cX12_digest 128 = .ok (.invokevirtual 207, 3) := by decide +kernel
theorem dX12_digest_131 : decode cX12_digest 131 = .ok (.i2l, 1) := by decide +kernel
theorem dX12_digest_132 : decode cX12_digest 132 = .ok (.invokevirtual 254, 3) := by decide +kernel
theorem dX12_digest_135 : decode cX12_digest 135 = .ok (.iconst 0, 1) := by decide +kernel
theorem dX12_digest_136 : decode cX12_digest 136 = .ok (.istore_n 1, 1) := by decide +kernel
theorem dX12_digest_137 : decode cX12_digest 137 = .ok (.iload_n 1, 1) := by decide +kernel
theorem dX12_digest_138 : decode cX12_digest 138 = .ok (.aload_n 0, 1) := by decide +kernel
theorem dX12_digest_139 : decode cX12_digest 139 = .ok (.getfield 77, 3) := by decide +kernel
theorem dX12_digest_142 : decode cX12_digest 142 = .ok (.if_icmp .ge 20, 3) := by decide +kernel
theorem dX12_digest_145 : decode cX12_digest 145 = .ok (.aload_n 0, 1) := by decide +kernel
theorem dX12_digest_146 : decode cX12_digest 146 = .ok (.aload_n 0, 1) := by decide +kernel
theorem dX12_digest_147 : decode cX12_digest 147 = .ok (.getfield 7, 3) := by decide +kernel
theorem dX12_digest_150 : decode cX12_digest 150 = .ok (.iload_n 1, 1) := by decide +kernel
theorem dX12_digest_151 : decode cX12_digest 151 = .ok (.iaload, 1) := by decide +kernel
theorem dX12_digest_152 : decode cX12_digest 152 = .ok (.i2l, 1) := by decide +kernel
theorem dX12_digest_153 : decode cX12_digest 153 = .ok (.invokevirtual 254, 3) := by decide +kernel
theorem dX12_digest_156 : decode cX12_digest 156 = .ok (.iinc 1 1, 3) := by decide +kernel
theorem dX12_digest_159 : decode cX12_digest 159 = .ok (.goto (-22), 3) := by decide +kernel
theorem dX12_digest_162 : decode cX12_digest 162 = .ok (.iconst 0, 1) := by decide +kernel
theorem dX12_digest_163 : decode cX12_digest 163 = .ok (.istore_n 1, 1) := by decide +kernel
theorem dX12_digest_164 : decode cX12_digest 164 = .ok (.iload_n 1, 1) := by decide +kernel
theorem dX12_digest_165 : decode cX12_digest 165 = .ok (.bipush 10, 2) := by decide +kernel
theorem dX12_digest_167 : decode cX12_digest 167 = .ok (.if_icmp .ge 19, 3) := by decide +kernel
theorem dX12_digest_170 : decode cX12_digest 170 = .ok (.aload_n 0, 1) := by decide +kernel
theorem dX12_digest_171 : decode cX12_digest 171 = .ok (.aload_n 0, 1) := by decide +kernel
theorem dX12_digest_172 : decode cX12_digest 172 = .ok (.iload_n 1, 1) := by decide +kernel
theorem dX12_digest_173 : decode cX12_digest 173 = .ok (.invokevirtual 245, 3) := by decide +kernel
theorem dX12_digest_176 : decode cX12_digest 176 = .ok (.i2l, 1) := by decide +kernel
theorem dX12_digest_177 : decode cX12_digest 177 = .ok (.invokevirtual 254, 3) := by decide +kernel
theorem dX12_digest_180 : decode cX12_digest 180 = .ok (.iinc 1 1, 3) := by decide +kernel
theorem dX12_digest_183 : decode cX12_digest 183 = .ok (.goto (-19), 3) := by decide +kernel
theorem dX12_digest_186 : decode cX12_digest 186 = .ok (.aload_n 0, 1) := by decide +kernel
theorem dX12_digest_187 : decode cX12_digest 187 = .ok (.getfield 250, 3) := by decide +kernel
theorem dX12_digest_190 : decode cX12_digest 190 = .ok (.lreturn, 1) := by decide +kernel
theorem dJ11_isValidCodePoint_9a6ad_0 : decode cJ11_isValidCodePoint_9a6ad 0 = .ok (.iload_n 0, 1) := by decide +kernel
theorem dJ11_isValidCodePoint_9a6ad_1 : decode cJ11_isValidCodePoint_9a6ad 1 = .ok (.bipush 16, 2) := by decide +kernel
theorem dJ11_isValidCodePoint_9a6ad_3 : decode cJ11_isValidCodePoint_9a6ad 3 = .ok (.iushr, 1) := by decide +kernel
theorem dJ11_isValidCodePoint_9a6ad_4 : decode cJ11_isValidCodePoint_9a6ad 4 = .ok (.istore_n 1, 1) := by decide +kernel
theorem dJ11_isValidCodePoint_9a6ad_5 : decode cJ11_isValidCodePoint_9a6ad 5 = .ok (.iload_n 1, 1) := by decide +kernel
theorem dJ11_isValidCodePoint_9a6ad_6 : decode cJ11_isValidCodePoint_9a6ad 6 = .ok (.bipush 17, 2) := by decide +kernel
theorem dJ11_isValidCodePoint_9a6ad_8 : decode cJ11_isValidCodePoint_9a6ad 8 = .ok (.if_icmp .ge 7, 3) := by decide +kernel
theorem dJ11_isValidCodePoint_9a6ad_11 : decode cJ11_isValidCodePoint_9a6ad 11 = .ok (.iconst 1, 1) := by decide +kernel
theorem dJ11_isValidCodePoint_9a6ad_12 : decode cJ11_isValidCodePoint_9a6ad 12 = .ok (.goto 4, 3) := by decide +kernel
theorem dJ11_isValidCodePoint_9a6ad_15 : decode cJ11_isValidCodePoint_9a6ad 15 = .ok (.iconst 0, 1) := by decide +kernel
theorem dJ11_isValidCodePoint_9a6ad_16 : decode cJ11_isValidCodePoint_9a6ad 16 = .ok (.ireturn, 1) := by decide +kernel
theorem dJ11_highSurrogate_5068e_0 : decode cJ11_highSurrogate_5068e 0 = .ok (.iload_n 0, 1) := by decide +kernel
theorem dJ11_highSurrogate_5068e_1 : decode cJ11_highSurrogate_5068e 1 = .ok (.bipush 10, 2) := by decide +kernel
theorem dJ11_highSurrogate_5068e_3 : decode cJ11_highSurrogate_5068e 3 = .ok (.iushr, 1) := by decide +kernel
theorem dJ11_highSurrogate_5068e_4 : decode cJ11_highSurrogate_5068e 4 = .ok (.ldc 110, 2) := by decide +kernel
theorem dJ11_highSurrogate_5068e_6 : decode cJ11_highSurrogate_5068e 6 = .ok (.iadd, 1) := by decide +kernel
theorem dJ11_highSurrogate_5068e_7 : decode cJ11_highSurrogate_5068e 7 = .ok (.i2c, 1) := by decide +kernel
theorem dJ11_highSurrogate_5068e_8 : decode cJ11_highSurrogate_5068e 8 = .ok (.ireturn, 1) := by decide +kernel
theorem dJ11_lowSurrogate_5068e_0 : decode cJ11_lowSurrogate_5068e 0 = .ok (.iload_n 0, 1) := by decide +kernel
theorem dJ11_lowSurrogate_5068e_1 : decode cJ11_lowSurrogate_5068e 1 = .ok (.sipush 1023, 3) := by decide +kernel
theorem dJ11_lowSurrogate_5068e_4 : decode cJ11_lowSurrogate_5068e 4 = .ok (.iand, 1) := by decide +kernel
theorem dJ11_lowSurrogate_5068e_5 : decode cJ11_lowSurrogate_5068e 5 = .ok (.ldc 76, 2) := by decide +kernel
theorem dJ11_lowSurrogate_5068e_7 : decode cJ11_lowSurrogate_5068e 7 = .ok (.iadd, 1) := by decide +kernel
theorem dJ11_lowSurrogate_5068e_8 : decode cJ11_lowSurrogate_5068e 8 = .ok (.i2c, 1) := by decide +kernel
theorem dJ11_lowSurrogate_5068e_9 : decode cJ11_lowSurrogate_5068e 9 = .ok (.ireturn, 1) := by decide +kernel
theorem dJ9_max_7cf53_0 : decode cJ9_max_7cf53 0 = .ok (.iload_n 0, 1) := by decide +kernel
theorem dJ9_max_7cf53_1 : decode cJ9_max_7cf53 1 = .ok (.iload_n 1, 1) := by decide +kernel
theorem dJ9_max_7cf53_2 : decode cJ9_max_7cf53 2 = .ok (.if_icmp .lt 7, 3) := by decide +kernel
theorem dJ9_max_7cf53_5 : decode cJ9_max_7cf53 5 = .ok (.iload_n 0, 1) := by decide +kernel
theorem dJ9_max_7cf53_6 : decode cJ9_max_7cf53 6 = .ok (.goto 4, 3) := by decide +kernel
theorem dJ9_max_7cf53_9 : decode cJ9_max_7cf53 9 = .ok (.iload_n 1, 1) := by decide +kernel
theorem dJ9_max_7cf53_10 : decode cJ9_max_7cf53 10 = .ok (.ireturn, 1) := by decide +kernel
theorem dJ9_min_7cf53_0 : decode cJ9_min_7cf53 0 = .ok (.iload_n 0, 1) := by decide +kernel
theorem dJ9_min_7cf53_1 : decode cJ9_min_7cf53 1 = .ok (.iload_n 1, 1) := by decide +kernel
theorem dJ9_min_7cf53_2 : decode cJ9_min_7cf53 2 = .ok (.if_icmp .gt 7, 3) := by decide +kernel
theorem dJ9_min_7cf53_5 : decode cJ9_min_7cf53 5 = .ok (.iload_n 0, 1) := by decide +kernel
theorem dJ9_min_7cf53_6 : decode cJ9_min_7cf53 6 = .ok (.goto 4, 3) := by decide +kernel
theorem dJ9_min_7cf53_9 : decode cJ9_min_7cf53 9 = .ok (.iload_n 1, 1) := by decide +kernel
theorem dJ9_min_7cf53_10 : decode cJ9_min_7cf53 10 = .ok (.ireturn, 1) := by decide +kernel
set_option maxRecDepth 20000 in
theorem ggJ0_length_8abf5_J0_coder_7d493 : GoodIn wsJ0_length_8abf5 wsJ0_coder_7d493 := goodIn_r _ [6, 7, 8] (by decide +kernel) (by decide +kernel)
set_option maxRecDepth 20000 in
theorem gJ0_length_8abf5_J0_coder_7d493 : GoodIn wsJ0_length_8abf5 (wsV RJ0 335 RJ0 yJ0_coder_7d493 wsJ0_coder_7d493) := goodIn_app (goodIn_of _ (by decide +kernel)) ggJ0_length_8abf5_J0_coder_7d493
theorem dJ0_length_8abf5_0 : decode cJ0_length_8abf5 0 = .ok (.aload_n 0, 1) := by decide +kernel
theorem dJ0_length_8abf5_1 : decode cJ0_length_8abf5 1 = .ok (.getfield 9, 3) := by decide +kernel
theorem dJ0_length_8abf5_4 : decode cJ0_length_8abf5 4 = .ok (.arraylength, 1) := by decide +kernel
theorem dJ0_length_8abf5_5 : decode cJ0_length_8abf5 5 = .ok (.aload_n 0, 1) := by decide +kernel
theorem dJ0_length_8abf5_6 : decode cJ0_length_8abf5 6 = .ok (.invokevirtual 335, 3) := by decide +kernel
theorem dJ0_length_8abf5_9 : decode cJ0_length_8abf5 9 = .ok (.ishr, 1) := by decide +kernel
theorem dJ0_length_8abf5_10 : decode cJ0_length_8abf5 10 = .ok (.ireturn, 1) := by decide +kernel
set_option maxRecDepth 20000 in
theorem ggJ0_indexOf_0f7a4_J0_indexOf_7cf53 : GoodIn wsJ0_indexOf_0f7a4 wsJ0_indexOf_7cf53 := goodIn_r _ [5, 6, 7, 8, 9, 4, 10, 11, 12, 13, 14, 15, 16, 17, 18, 19, 20, 21, 22, 23, 24, 25, 26, 27, 28, 29, 30, 31, 32, 33, 34, 35, 36, 37, 38, 39, 40, 41, 42, 43, 44, 45, 46, 47, 48, 49, 50, 51, 52, 53, 54, 55, 56, 57, 58, 59, 60, 61, 62, 63, 64, 65, 66, 67, 68, 69, 70, 71, 72, 73, 74, 75, 76, 77, 78, 79, 80, 81, 82, 83, 84, 85] (by decide +kernel) (by decide +kernel)
set_option maxRecDepth 20000 in
theorem gJ0_indexOf_0f7a4_J0_indexOf_7cf53 : GoodIn wsJ0_indexOf_0f7a4 (wsV RJ0 633 RJ0 yJ0_indexOf_7cf53 wsJ0_indexOf_7cf53) := goodIn_app (goodIn_of _ (by decide +kernel)) ggJ0_indexOf_0f7a4_J0_indexOf_7cf53
theorem dJ0_indexOf_0f7a4_0 : decode cJ0_indexOf_0f7a4 0 = .ok (.aload_n 0, 1) := by decide +kernel
theorem dJ0_indexOf_0f7a4_1 : decode cJ0_indexOf_0f7a4 1 = .ok (.iload_n 1, 1) := by decide +kernel
theorem dJ0_indexOf_0f7a4_2 : decode cJ0_indexOf_0f7a4 2 = .ok (.iconst 0, 1) := by decide +kernel
theorem dJ0_indexOf_0f7a4_3 : decode cJ0_indexOf_0f7a4 3 = .ok (.invokevirtual 633, 3) := by decide +kernel
theorem dJ0_indexOf_0f7a4_6 : decode cJ0_indexOf_0f7a4 6 = .ok (.ireturn, 1) := by decide +kernel
set_option maxRecDepth 20000 in
theorem ggJ0_indexOf_7cf53_J0_isLatin1_aae02 : GoodIn wsJ0_indexOf_7cf53 wsJ0_isLatin1_aae02 := goodIn_r _ [6, 7, 8] (by decide +kernel) (by decide +kernel)
set_option maxRecDepth 20000 in
theorem gJ0_indexOf_7cf53_J0_isLatin1_aae02 : GoodIn wsJ0_indexOf_7cf53 (wsV RJ0 492 RJ0 yJ0_isLatin1_aae02 wsJ0_isLatin1_aae02) := goodIn_app (goodIn_of _ (by decide +kernel)) ggJ0_indexOf_7cf53_J0_isLatin1_aae02
set_option maxRecDepth 20000 in
theorem ggJ0_indexOf_7cf53_J0_length_8abf5 : GoodIn wsJ0_indexOf_7cf53 wsJ0_length_8abf5 := goodIn_r _ [12, 1, 13, 14, 15, 5, 16, 7, 8] (by decide +kernel) (by decide +kernel)
set_option maxRecDepth 20000 in
theorem gJ0_indexOf_7cf53_J0_length_8abf5 : GoodIn wsJ0_indexOf_7cf53 (wsV RJ0 505 RJ0 yJ0_length_8abf5 wsJ0_length_8abf5) := goodIn_app (goodIn_of _ (by decide +kernel)) ggJ0_indexOf_7cf53_J0_length_8abf5
set_option maxRecDepth 20000 in
theorem ggJ0_indexOf_7cf53_J1_indexOf_4cfef : GoodIn wsJ0_indexOf_7cf53 wsJ1_indexOf_4cfef := goodIn_r _ [20, 21, 22, 23, 24, 25, 26, 27, 28, 29, 19, 30, 31, 32, 33] (by decide +kernel) (by decide +kernel)
set_option maxRecDepth 20000 in
theorem gJ0_indexOf_7cf53_J1_indexOf_4cfef : GoodIn wsJ0_indexOf_7cf53 (va_wsS RJ0 637 yJ1_indexOf_4cfef wsJ1_indexOf_4cfef) := goodIn_app (goodIn_of _ (by decide +kernel)) ggJ0_indexOf_7cf53_J1_indexOf_4cfef
set_option maxRecDepth 20000 in
theorem ggJ0_indexOf_7cf53_J2_indexOf_4cfef : GoodIn wsJ0_indexOf_7cf53 wsJ2_indexOf_4cfef := goodIn_r _ [37, 38, 22, 23, 24, 39, 26, 27, 40, 41, 42, 36, 43, 44, 45, 46, 47, 48, 49, 50, 51, 5, 52, 53, 54, 55, 56, 57, 58, 59, 60, 61, 62, 63, 64, 65, 66, 67, 68, 69, 70, 71, 72, 73, 74, 75, 76, 77, 78, 79, 80, 81] (by decide +kernel) (by decide +kernel)
set_option maxRecDepth 20000 in
theorem gJ0_indexOf_7cf53_J2_indexOf_4cfef : GoodIn wsJ0_indexOf_7cf53 (va_wsS RJ0 640 yJ2_indexOf_4cfef wsJ2_indexOf_4cfef) := goodIn_app (goodIn_of _ (by decide +kernel)) ggJ0_indexOf_7cf53_J2_indexOf_4cfef
theorem dJ0_indexOf_7cf53_0 : decode cJ0_indexOf_7cf53 0 = .ok (.aload_n 0, 1) := by decide +kernel
theorem dJ0_indexOf_7cf53_1 : decode cJ0_indexOf_7cf53 1 = .ok (.invokevirtual 492, 3) := by decide +kernel
theorem dJ0_indexOf_7cf53_4 : decode cJ0_indexOf_7cf53 4 = .ok (.ifCond .eq 19, 3) := by decide +kernel
theorem dJ0_indexOf_7cf53_7 : decode cJ0_indexOf_7cf53 7 = .ok (.aload_n 0, 1) := by decide +kernel
theorem dJ0_indexOf_7cf53_8 : decode cJ0_indexOf_7cf53 8 = .ok (.getfield 9, 3) := by decide +kernel
theorem dJ0_indexOf_7cf53_11 : decode cJ0_indexOf_7cf53 11 = .ok (.iload_n 1, 1) := by decide +kernel
theorem dJ0_indexOf_7cf53_12 : decode cJ0_indexOf_7cf53 12 = .ok (.iload_n 2, 1) := by decide +kernel
theorem dJ0_indexOf_7cf53_13 : decode cJ0_indexOf_7cf53 13 = .ok (.aload_n 0, 1) := by decide +kernel
theorem dJ0_indexOf_7cf53_14 : decode cJ0_indexOf_7cf53 14 = .ok (.invokevirtual 505, 3) := by decide +kernel
theorem dJ0_indexOf_7cf53_17 : decode cJ0_indexOf_7cf53 17 = .ok (.invokestatic 637, 3) := by decide +kernel
theorem dJ0_indexOf_7cf53_20 : decode cJ0_indexOf_7cf53 20 = .ok (.goto 16, 3) := by decide +kernel
theorem dJ0_indexOf_7cf53_23 : decode cJ0_indexOf_7cf53 23 = .ok (.aload_n 0, 1) := by decide +kernel
theorem dJ0_indexOf_7cf53_24 : decode cJ0_indexOf_7cf53 24 = .ok (.getfield 9, 3) := by decide +kernel
theorem dJ0_indexOf_7cf53_27 : decode cJ0_indexOf_7cf53 27 = .ok (.iload_n 1, 1) := by decide +kernel
theorem dJ0_indexOf_7cf53_28 : decode cJ0_indexOf_7cf53 28 = .ok (.iload_n 2, 1) := by decide +kernel
theorem dJ0_indexOf_7cf53_29 : decode cJ0_indexOf_7cf53 29 = .ok (.aload_n 0, 1) := by decide +kernel
theorem dJ0_indexOf_7cf53_30 : decode cJ0_indexOf_7cf53 30 = .ok (.invokevirtual 505, 3) := by decide +kernel
theorem dJ0_indexOf_7cf53_33 : decode cJ0_indexOf_7cf53 33 = .ok (.invokestatic 640, 3) := by decide +kernel
theorem dJ0_indexOf_7cf53_36 : decode cJ0_indexOf_7cf53 36 = .ok (.ireturn, 1) := by decide +kernel
theorem dJ0_coder_7d493_0 : decode cJ0_coder_7d493 0 = .ok (.getstatic 38, 3) := by decide +kernel
theorem dJ0_coder_7d493_3 : decode cJ0_coder_7d493 3 = .ok (.ifCond .eq 10, 3) := by decide +kernel
theorem dJ0_coder_7d493_6 : decode cJ0_coder_7d493 6 = .ok (.aload_n 0, 1) := by decide +kernel
theorem dJ0_coder_7d493_7 : decode cJ0_coder_7d493 7 = .ok (.getfield 15, 3) := by decide +kernel
theorem dJ0_coder_7d493_10 : decode cJ0_coder_7d493 10 = .ok (.goto 4, 3) := by decide +kernel
theorem dJ0_coder_7d493_13 : decode cJ0_coder_7d493 13 = .ok (.iconst 1, 1) := by decide +kernel
theorem dJ0_coder_7d493_14 : decode cJ0_coder_7d493 14 = .ok (.ireturn, 1) := by decide +kernel
theorem dJ0_isLatin1_aae02_0 : decode cJ0_isLatin1_aae02 0 = .ok (.getstatic 38, 3) := by decide +kernel
theorem dJ0_isLatin1_aae02_3 : decode cJ0_isLatin1_aae02 3 = .ok (.ifCond .eq 14, 3) := by decide +kernel
theorem dJ0_isLatin1_aae02_6 : decode cJ0_isLatin1_aae02 6 = .ok (.aload_n 0, 1) := by decide +kernel
theorem dJ0_isLatin1_aae02_7 : decode cJ0_isLatin1_aae02 7 = .ok (.getfield 15, 3) := by decide +kernel
theorem dJ0_isLatin1_aae02_10 : decode cJ0_isLatin1_aae02 10 = .ok (.ifCond .ne 7, 3) := by decide +kernel
theorem dJ0_isLatin1_aae02_13 : decode cJ0_isLatin1_aae02 13 = .ok (.iconst 1, 1) := by decide +kernel
theorem dJ0_isLatin1_aae02_14 : decode cJ0_isLatin1_aae02 14 = .ok (.goto 4, 3) := by decide +kernel
theorem dJ0_isLatin1_aae02_17 : decode cJ0_isLatin1_aae02 17 = .ok (.iconst 0, 1) := by decide +kernel
theorem dJ0_isLatin1_aae02_18 : decode cJ0_isLatin1_aae02 18 = .ok (.ireturn, 1) := by decide +kernel
set_option maxRecDepth 20000 in
theorem ggJ0_checkBoundsBeginEnd_23922_J3_checkFromToIndex_8c36e : GoodIn wsJ0_checkBoundsBeginEnd_23922 wsJ3_checkFromToIndex_8c36e := goodIn_r _ [5] (by decide +kernel) (by decide +kernel)
set_option maxRecDepth 20000 in
theorem gJ0_checkBoundsBeginEnd_23922_J3_checkFromToIndex_8c36e : GoodIn wsJ0_checkBoundsBeginEnd_23922 (va_wsS RJ0 1062 yJ3_checkFromToIndex_8c36e wsJ3_checkFromToIndex_8c36e) := goodIn_app (goodIn_of _ (by decide +kernel)) ggJ0_checkBoundsBeginEnd_23922_J3_checkFromToIndex_8c36e
theorem dJ0_checkBoundsBeginEnd_23922_0 : decode cJ0_checkBoundsBeginEnd_23922 0 = .ok (.iload_n 0, 1) := by decide +kernel
theorem dJ0_checkBoundsBeginEnd_23922_1 : decode cJ0_checkBoundsBeginEnd_23922 1 = .ok (.iload_n 1, 1) := by decide +kernel
theorem dJ0_checkBoundsBeginEnd_23922_2 : decode cJ0_checkBoundsBeginEnd_23922 2 = .ok (.iload_n 2, 1) := by decide +kernel
theorem dJ0_checkBoundsBeginEnd_23922_3 : decode cJ0_checkBoundsBeginEnd_23922 3 = .ok (.getstatic 1053, 3) := by decide +kernel
theorem dJ0_checkBoundsBeginEnd_23922_6 : decode cJ0_checkBoundsBeginEnd_23922 6 = .ok (.invokestatic 1062, 3) := by decide +kernel
theorem dJ0_checkBoundsBeginEnd_23922_9 : decode cJ0_checkBoundsBeginEnd_23922 9 = .ok (.pop, 1) := by decide +kernel
theorem dJ0_checkBoundsBeginEnd_23922_10 : decode cJ0_checkBoundsBeginEnd_23922 10 = .ok (.return_, 1) := by decide +kernel
theorem dJ1_canEncode_9a6ad_0 : decode cJ1_canEncode_9a6ad 0 = .ok (.iload_n 0, 1) := by decide +kernel
theorem dJ1_canEncode_9a6ad_1 : decode cJ1_canEncode_9a6ad 1 = .ok (.ifCond .lt 14, 3) := by decide +kernel
theorem dJ1_canEncode_9a6ad_4 : decode cJ1_canEncode_9a6ad 4 = .ok (.iload_n 0, 1) := by decide +kernel
theorem dJ1_canEncode_9a6ad_5 : decode cJ1_canEncode_9a6ad 5 = .ok (.sipush 255, 3) := by decide +kernel
theorem dJ1_canEncode_9a6ad_8 : decode cJ1_canEncode_9a6ad 8 = .ok (.if_icmp .gt 7, 3) := by decide +kernel
theorem dJ1_canEncode_9a6ad_11 : decode cJ1_canEncode_9a6ad 11 = .ok (.iconst 1, 1) := by decide +kernel
theorem dJ1_canEncode_9a6ad_12 : decode cJ1_canEncode_9a6ad 12 = .ok (.goto 4, 3) := by decide +kernel
theorem dJ1_canEncode_9a6ad_15 : decode cJ1_canEncode_9a6ad 15 = .ok (.iconst 0, 1) := by decide +kernel
theorem dJ1_canEncode_9a6ad_16 : decode cJ1_canEncode_9a6ad 16 = .ok (.ireturn, 1) := by decide +kernel
set_option maxRecDepth 20000 in
theorem ggJ1_indexOf_4cfef_J1_canEncode_9a6ad : GoodIn wsJ1_indexOf_4cfef wsJ1_canEncode_9a6ad := goodIn_r _ [11] (by decide +kernel) (by decide +kernel)
set_option maxRecDepth 20000 in
theorem gJ1_indexOf_4cfef_J1_canEncode_9a6ad : GoodIn wsJ1_indexOf_4cfef (va_wsS RJ1 88 yJ1_canEncode_9a6ad wsJ1_canEncode_9a6ad) := goodIn_app (goodIn_of _ (by decide +kernel)) ggJ1_indexOf_4cfef_J1_canEncode_9a6ad
set_option maxRecDepth 20000 in
theorem ggJ1_indexOf_4cfef_J1_indexOfChar_4cfef : GoodIn wsJ1_indexOf_4cfef wsJ1_indexOfChar_4cfef := goodIn_r _ [14] (by decide +kernel) (by decide +kernel)
set_option maxRecDepth 20000 in
theorem gJ1_indexOf_4cfef_J1_indexOfChar_4cfef : GoodIn wsJ1_indexOf_4cfef (va_wsS RJ1 95 yJ1_indexOfChar_4cfef wsJ1_indexOfChar_4cfef) := goodIn_app (goodIn_of _ (by decide +kernel)) ggJ1_indexOf_4cfef_J1_indexOfChar_4cfef
theorem dJ1_indexOf_4cfef_0 : decode cJ1_indexOf_4cfef 0 = .ok (.iload_n 1, 1) := by decide +kernel
theorem dJ1_indexOf_4cfef_1 : decode cJ1_indexOf_4cfef 1 = .ok (.invokestatic 88, 3) := by decide +kernel
theorem dJ1_indexOf_4cfef_4 : decode cJ1_indexOf_4cfef 4 = .ok (.ifCond .ne 5, 3) := by decide +kernel
theorem dJ1_indexOf_4cfef_7 : decode cJ1_indexOf_4cfef 7 = .ok (.iconst (-1), 1) := by decide +kernel
theorem dJ1_indexOf_4cfef_8 : decode cJ1_indexOf_4cfef 8 = .ok (.ireturn, 1) := by decide +kernel
theorem dJ1_indexOf_4cfef_9 : decode cJ1_indexOf_4cfef 9 = .ok (.iload_n 2, 1) := by decide +kernel
theorem dJ1_indexOf_4cfef_10 : decode cJ1_indexOf_4cfef 10 = .ok (.iconst 0, 1) := by decide +kernel
theorem dJ1_indexOf_4cfef_11 : decode cJ1_indexOf_4cfef 11 = .ok (.invokestatic 92, 3) := by decide +kernel
theorem dJ1_indexOf_4cfef_14 : decode cJ1_indexOf_4cfef 14 = .ok (.istore_n 2, 1) := by decide +kernel
theorem dJ1_indexOf_4cfef_15 : decode cJ1_indexOf_4cfef 15 = .ok (.iload_n 3, 1) := by decide +kernel
theorem dJ1_indexOf_4cfef_16 : decode cJ1_indexOf_4cfef 16 = .ok (.aload_n 0, 1) := by decide +kernel
theorem dJ1_indexOf_4cfef_17 : decode cJ1_indexOf_4cfef 17 = .ok (.arraylength, 1) := by decide +kernel
theorem dJ1_indexOf_4cfef_18 : decode cJ1_indexOf_4cfef 18 = .ok (.invokestatic 38, 3) := by decide +kernel
theorem dJ1_indexOf_4cfef_21 : decode cJ1_indexOf_4cfef 21 = .ok (.istore_n 3, 1) := by decide +kernel
theorem dJ1_indexOf_4cfef_22 : decode cJ1_indexOf_4cfef 22 = .ok (.iload_n 2, 1) := by decide +kernel
theorem dJ1_indexOf_4cfef_23 : decode cJ1_indexOf_4cfef 23 = .ok (.iload_n 3, 1) := by decide +kernel
theorem dJ1_indexOf_4cfef_24 : decode cJ1_indexOf_4cfef 24 = .ok (.if_icmp .lt 5, 3) := by decide +kernel
theorem dJ1_indexOf_4cfef_27 : decode cJ1_indexOf_4cfef 27 = .ok (.iconst (-1), 1) := by decide +kernel
theorem dJ1_indexOf_4cfef_28 : decode cJ1_indexOf_4cfef 28 = .ok (.ireturn, 1) := by decide +kernel
theorem dJ1_indexOf_4cfef_29 : decode cJ1_indexOf_4cfef 29 = .ok (.aload_n 0, 1) := by decide +kernel
theorem dJ1_indexOf_4cfef_30 : decode cJ1_indexOf_4cfef 30 = .ok (.iload_n 1, 1) := by decide +kernel
theorem dJ1_indexOf_4cfef_31 : decode cJ1_indexOf_4cfef 31 = .ok (.iload_n 2, 1) := by decide +kernel
theorem dJ1_indexOf_4cfef_32 : decode cJ1_indexOf_4cfef 32 = .ok (.iload_n 3, 1) := by decide +kernel
theorem dJ1_indexOf_4cfef_33 : decode cJ1_indexOf_4cfef 33 = .ok (.invokestatic 95, 3) := by decide +kernel
theorem dJ1_indexOf_4cfef_36 : decode cJ1_indexOf_4cfef 36 = .ok (.ireturn, 1) := by decide +kernel
theorem dJ1_indexOfChar_4cfef_0 : decode cJ1_indexOfChar_4cfef 0 = .ok (.iload_n 1, 1) := by decide +kernel
theorem dJ1_indexOfChar_4cfef_1 : decode cJ1_indexOfChar_4cfef 1 = .ok (.i2b, 1) := by decide +kernel
theorem dJ1_indexOfChar_4cfef_2 : decode cJ1_indexOfChar_4cfef 2 = .ok (.istore 4, 2) := by decide +kernel
theorem dJ1_indexOfChar_4cfef_4 : decode cJ1_indexOfChar_4cfef 4 = .ok (.iload_n 2, 1) := by decide +kernel
theorem dJ1_indexOfChar_4cfef_5 : decode cJ1_indexOfChar_4cfef 5 = .ok (.istore 5, 2) := by decide +kernel
theorem dJ1_indexOfChar_4cfef_7 : decode cJ1_indexOfChar_4cfef 7 = .ok (.iload 5, 2) := by decide +kernel
theorem dJ1_indexOfChar_4cfef_9 : decode cJ1_indexOfChar_4cfef 9 = .ok (.iload_n 3, 1) := by decide +kernel
theorem dJ1_indexOfChar_4cfef_10 : decode cJ1_indexOfChar_4cfef 10 = .ok (.if_icmp .ge 21, 3) := by decide +kernel
theorem dJ1_indexOfChar_4cfef_13 : decode cJ1_indexOfChar_4cfef 13 = .ok (.aload_n 0, 1) := by decide +kernel
theorem dJ1_indexOfChar_4cfef_14 : decode cJ1_indexOfChar_4cfef 14 = .ok (.iload 5, 2) := by decide +kernel
theorem dJ1_indexOfChar_4cfef_16 : decode cJ1_indexOfChar_4cfef 16 = .ok (.baload, 1) := by decide +kernel
theorem dJ1_indexOfChar_4cfef_17 : decode cJ1_indexOfChar_4cfef 17 = .ok (.iload 4, 2) := by decide +kernel
theorem dJ1_indexOfChar_4cfef_19 : decode cJ1_indexOfChar_4cfef 19 = .ok (.if_icmp .ne 6, 3) := by decide +kernel
theorem dJ1_indexOfChar_4cfef_22 : decode cJ1_indexOfChar_4cfef 22 = .ok (.iload 5, 2) := by decide +kernel
theorem dJ1_indexOfChar_4cfef_24 : decode cJ1_indexOfChar_4cfef 24 = .ok (.ireturn, 1) := by decide +kernel
theorem dJ1_indexOfChar_4cfef_25 : decode cJ1_indexOfChar_4cfef 25 = .ok (.iinc 5 1, 3) := by decide +kernel
theorem dJ1_indexOfChar_4cfef_28 : decode cJ1_indexOfChar_4cfef 28 = .ok (.goto (-21), 3) := by decide +kernel
theorem dJ1_indexOfChar_4cfef_31 : decode cJ1_indexOfChar_4cfef 31 = .ok (.iconst (-1), 1) := by decide +kernel
theorem dJ1_indexOfChar_4cfef_32 : decode cJ1_indexOfChar_4cfef 32 = .ok (.ireturn, 1) := by decide +kernel
set_option maxRecDepth 20000 in
theorem ggJ2_getChar_3b067_J2_length_9d52b : GoodIn wsJ2_getChar_3b067 wsJ2_length_9d52b := goodIn_r _ [7] (by decide +kernel) (by decide +kernel)
set_option maxRecDepth 20000 in
theorem gJ2_getChar_3b067_J2_length_9d52b : GoodIn wsJ2_getChar_3b067 (va_wsS RJ2 48 yJ2_length_9d52b wsJ2_length_9d52b) := goodIn_app (goodIn_of _ (by decide +kernel)) ggJ2_getChar_3b067_J2_length_9d52b
theorem dJ2_getChar_3b067_0 : decode cJ2_getChar_3b067 0 = .ok (.getstatic 44, 3) := by decide +kernel
theorem dJ2_getChar_3b067_3 : decode cJ2_getChar_3b067 3 = .ok (.ifCond .ne 25, 3) := by decide +kernel
theorem dJ2_getChar_3b067_6 : decode cJ2_getChar_3b067 6 = .ok (.iload_n 1, 1) := by decide +kernel
theorem dJ2_getChar_3b067_7 : decode cJ2_getChar_3b067 7 = .ok (.ifCond .lt 11, 3) := by decide +kernel
theorem dJ2_getChar_3b067_10 : decode cJ2_getChar_3b067 10 = .ok (.iload_n 1, 1) := by decide +kernel
theorem dJ2_getChar_3b067_11 : decode cJ2_getChar_3b067 11 = .ok (.aload_n 0, 1) := by decide +kernel
theorem dJ2_getChar_3b067_12 : decode cJ2_getChar_3b067 12 = .ok (.invokestatic 48, 3) := by decide +kernel
theorem dJ2_getChar_3b067_15 : decode cJ2_getChar_3b067 15 = .ok (.if_icmp .lt 13, 3) := by decide +kernel
theorem dJ2_getChar_3b067_18 : decode cJ2_getChar_3b067 18 = .ok (.new 52, 3) := by decide +kernel
theorem dJ2_getChar_3b067_21 : decode cJ2_getChar_3b067 21 = .ok (.dup, 1) := by decide +kernel
theorem dJ2_getChar_3b067_22 : decode cJ2_getChar_3b067 22 = .ok (.ldc 54, 2) := by decide +kernel
theorem dJ2_getChar_3b067_24 : decode cJ2_getChar_3b067 24 = .ok (.invokespecial 56, 3) := by decide +kernel
theorem dJ2_getChar_3b067_27 : decode cJ2_getChar_3b067 27 = .ok (.athrow, 1) := by decide +kernel
theorem dJ2_getChar_3b067_28 : decode cJ2_getChar_3b067 28 = .ok (.iload_n 1, 1) := by decide +kernel
theorem dJ2_getChar_3b067_29 : decode cJ2_getChar_3b067 29 = .ok (.iconst 1, 1) := by decide +kernel
theorem dJ2_getChar_3b067_30 : decode cJ2_getChar_3b067 30 = .ok (.ishl, 1) := by decide +kernel
theorem dJ2_getChar_3b067_31 : decode cJ2_getChar_3b067 31 = .ok (.istore_n 1, 1) := by decide +kernel
theorem dJ2_getChar_3b067_32 : decode cJ2_getChar_3b067 32 = .ok (.aload_n 0, 1) := by decide +kernel
theorem dJ2_getChar_3b067_33 : decode cJ2_getChar_3b067 33 = .ok (.iload_n 1, 1) := by decide +kernel
theorem dJ2_getChar_3b067_34 : decode cJ2_getChar_3b067 34 = .ok (.iinc 1 1, 3) := by decide +kernel
theorem dJ2_getChar_3b067_37 : decode cJ2_getChar_3b067 37 = .ok (.baload, 1) := by decide +kernel
theorem dJ2_getChar_3b067_38 : decode cJ2_getChar_3b067 38 = .ok (.sipush 255, 3) := by decide +kernel
theorem dJ2_getChar_3b067_41 : decode cJ2_getChar_3b067 41 = .ok (.iand, 1) := by decide +kernel
theorem dJ2_getChar_3b067_42 : decode cJ2_getChar_3b067 42 = .ok (.getstatic 59, 3) := by decide +kernel
theorem dJ2_getChar_3b067_45 : decode cJ2_getChar_3b067 45 = .ok (.ishl, 1) := by decide +kernel
theorem dJ2_getChar_3b067_46 : decode cJ2_getChar_3b067 46 = .ok (.aload_n 0, 1) := by decide +kernel
theorem dJ2_getChar_3b067_47 : decode cJ2_getChar_3b067 47 = .ok (.iload_n 1, 1) := by decide +kernel
theorem dJ2_getChar_3b067_48 : decode cJ2_getChar_3b067 48 = .ok (.baload, 1) := by decide +kernel
theorem dJ2_getChar_3b067_49 : decode cJ2_getChar_3b067 49 = .ok (.sipush 255, 3) := by decide +kernel
theorem dJ2_getChar_3b067_52 : decode cJ2_getChar_3b067 52 = .ok (.iand, 1) := by decide +kernel
theorem dJ2_getChar_3b067_53 : decode cJ2_getChar_3b067 53 = .ok (.getstatic 63, 3) := by decide +kernel
theorem dJ2_getChar_3b067_56 : decode cJ2_getChar_3b067 56 = .ok (.ishl, 1) := by decide +kernel
theorem dJ2_getChar_3b067_57 : decode cJ2_getChar_3b067 57 = .ok (.ior, 1) := by decide +kernel
theorem dJ2_getChar_3b067_58 : decode cJ2_getChar_3b067 58 = .ok (.i2c, 1) := by decide +kernel
theorem dJ2_getChar_3b067_59 : decode cJ2_getChar_3b067 59 = .ok (.ireturn, 1) := by decide +kernel
theorem dJ2_length_9d52b_0 : decode cJ2_length_9d52b 0 = .ok (.aload_n 0, 1) := by decide +kernel
theorem dJ2_length_9d52b_1 : decode cJ2_length_9d52b 1 = .ok (.arraylength, 1) := by decide +kernel
theorem dJ2_length_9d52b_2 : decode cJ2_length_9d52b 2 = .ok (.iconst 1, 1) := by decide +kernel
theorem dJ2_length_9d52b_3 : decode cJ2_length_9d52b 3 = .ok (.ishr, 1) := by decide +kernel
theorem dJ2_length_9d52b_4 : decode cJ2_length_9d52b 4 = .ok (.ireturn, 1) := by decide +kernel
set_option maxRecDepth 20000 in
theorem ggJ2_indexOf_4cfef_J2_indexOfChar_4cfef : GoodIn wsJ2_indexOf_4cfef wsJ2_indexOfChar_4cfef := goodIn_r _ [12, 13, 14, 11, 15, 16, 17, 18, 19, 20, 21, 22, 23, 24, 25, 26, 27, 28, 29, 30, 31, 32, 33, 34, 35, 36] (by decide +kernel) (by decide +kernel)
set_option maxRecDepth 20000 in
theorem gJ2_indexOf_4cfef_J2_indexOfChar_4cfef : GoodIn wsJ2_indexOf_4cfef (va_wsS RJ2 228 yJ2_indexOfChar_4cfef wsJ2_indexOfChar_4cfef) := goodIn_app (goodIn_of _ (by decide +kernel)) ggJ2_indexOf_4cfef_J2_indexOfChar_4cfef
set_option maxRecDepth 20000 in
theorem ggJ2_indexOf_4cfef_J2_indexOfSupplementary_4cfef : GoodIn wsJ2_indexOf_4cfef wsJ2_indexOfSupplementary_4cfef := goodIn_r _ [39, 40, 41, 42, 43, 44, 45, 46, 47, 48, 49, 50, 51, 13, 14, 11, 15, 16, 17, 18, 19, 20, 21, 22, 23, 24, 25, 26, 27, 31, 32, 33, 34, 35, 36] (by decide +kernel) (by decide +kernel)
set_option maxRecDepth 20000 in
theorem gJ2_indexOf_4cfef_J2_indexOfSupplementary_4cfef : GoodIn wsJ2_indexOf_4cfef (va_wsS RJ2 232 yJ2_indexOfSupplementary_4cfef wsJ2_indexOfSupplementary_4cfef) := goodIn_app (goodIn_of _ (by decide +kernel)) ggJ2_indexOf_4cfef_J2_indexOfSupplementary_4cfef
end
section
theorem dJ2_indexOf_4cfef_0 : decode cJ2_indexOf_4cfef 0 = .ok (.iload_n 2, 1) := by decide +kernel
theorem dJ2_indexOf_4cfef_1 : decode cJ2_indexOf_4cfef 1 = .ok (.iconst 0, 1) := by decide +kernel
theorem dJ2_indexOf_4cfef_2 : decode cJ2_indexOf_4cfef 2 = .ok (.invokestatic 224, 3) := by decide +kernel
theorem dJ2_indexOf_4cfef_5 : decode cJ2_indexOf_4cfef 5 = .ok (.istore_n 2, 1) := by decide +kernel
theorem dJ2_indexOf_4cfef_6 : decode cJ2_indexOf_4cfef 6 = .ok (.iload_n 3, 1) := by decide +kernel
theorem dJ2_indexOf_4cfef_7 : decode cJ2_indexOf_4cfef 7 = .ok (.aload_n 0, 1) := by decide +kernel
theorem dJ2_indexOf_4cfef_8 : decode cJ2_indexOf_4cfef 8 = .ok (.arraylength, 1) := by decide +kernel
theorem dJ2_indexOf_4cfef_9 : decode cJ2_indexOf_4cfef 9 = .ok (.iconst 1, 1) := by decide +kernel
theorem dJ2_indexOf_4cfef_10 : decode cJ2_indexOf_4cfef 10 = .ok (.ishr, 1) := by decide +kernel
theorem dJ2_indexOf_4cfef_11 : decode cJ2_indexOf_4cfef 11 = .ok (.invokestatic 183, 3) := by decide +kernel
theorem dJ2_indexOf_4cfef_14 : decode cJ2_indexOf_4cfef 14 = .ok (.istore_n 3, 1) := by decide +kernel
theorem dJ2_indexOf_4cfef_15 : decode cJ2_indexOf_4cfef 15 = .ok (.iload_n 2, 1) := by decide +kernel
theorem dJ2_indexOf_4cfef_16 : decode cJ2_indexOf_4cfef 16 = .ok (.iload_n 3, 1) := by decide +kernel
theorem dJ2_indexOf_4cfef_17 : decode cJ2_indexOf_4cfef 17 = .ok (.if_icmp .lt 5, 3) := by decide +kernel
theorem dJ2_indexOf_4cfef_20 : decode cJ2_indexOf_4cfef 20 = .ok (.iconst (-1), 1) := by decide +kernel
theorem dJ2_indexOf_4cfef_21 : decode cJ2_indexOf_4cfef 21 = .ok (.ireturn, 1) := by decide +kernel
theorem dJ2_indexOf_4cfef_22 : decode cJ2_indexOf_4cfef 22 = .ok (.iload_n 1, 1) := by decide +kernel
theorem dJ2_indexOf_4cfef_23 : decode cJ2_indexOf_4cfef 23 = .ok (.ldc 227, 2) := by decide +kernel
theorem dJ2_indexOf_4cfef_25 : decode cJ2_indexOf_4cfef 25 = .ok (.if_icmp .ge 11, 3) := by decide +kernel
theorem dJ2_indexOf_4cfef_28 : decode cJ2_indexOf_4cfef 28 = .ok (.aload_n 0, 1) := by decide +kernel
theorem dJ2_indexOf_4cfef_29 : decode cJ2_indexOf_4cfef 29 = .ok (.iload_n 1, 1) := by decide +kernel
theorem dJ2_indexOf_4cfef_30 : decode cJ2_indexOf_4cfef 30 = .ok (.iload_n 2, 1) := by decide +kernel
theorem dJ2_indexOf_4cfef_31 : decode cJ2_indexOf_4cfef 31 = .ok (.iload_n 3, 1) := by decide +kernel
theorem dJ2_indexOf_4cfef_32 : decode cJ2_indexOf_4cfef 32 = .ok (.invokestatic 228, 3) := by decide +kernel
theorem dJ2_indexOf_4cfef_35 : decode cJ2_indexOf_4cfef 35 = .ok (.ireturn, 1) := by decide +kernel
theorem dJ2_indexOf_4cfef_36 : decode cJ2_indexOf_4cfef 36 = .ok (.aload_n 0, 1) := by decide +kernel
theorem dJ2_indexOf_4cfef_37 : decode cJ2_indexOf_4cfef 37 = .ok (.iload_n 1, 1) := by decide +kernel
theorem dJ2_indexOf_4cfef_38 : decode cJ2_indexOf_4cfef 38 = .ok (.iload_n 2, 1) := by decide +kernel
theorem dJ2_indexOf_4cfef_39 : decode cJ2_indexOf_4cfef 39 = .ok (.iload_n 3, 1) := by decide +kernel
theorem dJ2_indexOf_4cfef_40 : decode cJ2_indexOf_4cfef 40 = .ok (.invokestatic 232, 3) := by decide +kernel
theorem dJ2_indexOf_4cfef_43 : decode cJ2_indexOf_4cfef 43 = .ok (.ireturn, 1) := by decide +kernel
set_option maxRecDepth 20000 in
theorem ggJ2_indexOfChar_4cfef_J2_checkBoundsBeginEnd_d044e : GoodIn wsJ2_indexOfChar_4cfef wsJ2_checkBoundsBeginEnd_d044e := goodIn_r _ [4, 5, 6, 3, 7, 8, 9, 10, 11, 12, 13, 14, 15, 16] (by decide +kernel) (by decide +kernel)
set_option maxRecDepth 20000 in
theorem gJ2_indexOfChar_4cfef_J2_checkBoundsBeginEnd_d044e : GoodIn wsJ2_indexOfChar_4cfef (va_wsS RJ2 96 yJ2_checkBoundsBeginEnd_d044e wsJ2_checkBoundsBeginEnd_d044e) := goodIn_app (goodIn_of _ (by decide +kernel)) ggJ2_indexOfChar_4cfef_J2_checkBoundsBeginEnd_d044e
set_option maxRecDepth 20000 in
theorem ggJ2_indexOfChar_4cfef_J2_indexOfCharUnsafe_4cfef : GoodIn wsJ2_indexOfChar_4cfef wsJ2_indexOfCharUnsafe_4cfef := goodIn_r _ [19, 20, 21, 3, 22, 23, 24, 25, 5, 6, 7] (by decide +kernel) (by decide +kernel)
set_option maxRecDepth 20000 in
theorem gJ2_indexOfChar_4cfef_J2_indexOfCharUnsafe_4cfef : GoodIn wsJ2_indexOfChar_4cfef (va_wsS RJ2 244 yJ2_indexOfCharUnsafe_4cfef wsJ2_indexOfCharUnsafe_4cfef) := goodIn_app (goodIn_of _ (by decide +kernel)) ggJ2_indexOfChar_4cfef_J2_indexOfCharUnsafe_4cfef
theorem dJ2_indexOfChar_4cfef_0 : decode cJ2_indexOfChar_4cfef 0 = .ok (.iload_n 2, 1) := by decide +kernel
theorem dJ2_indexOfChar_4cfef_1 : decode cJ2_indexOfChar_4cfef 1 = .ok (.iload_n 3, 1) := by decide +kernel
theorem dJ2_indexOfChar_4cfef_2 : decode cJ2_indexOfChar_4cfef 2 = .ok (.aload_n 0, 1) := by decide +kernel
theorem dJ2_indexOfChar_4cfef_3 : decode cJ2_indexOfChar_4cfef 3 = .ok (.invokestatic 96, 3) := by decide +kernel
theorem dJ2_indexOfChar_4cfef_6 : decode cJ2_indexOfChar_4cfef 6 = .ok (.aload_n 0, 1) := by decide +kernel
theorem dJ2_indexOfChar_4cfef_7 : decode cJ2_indexOfChar_4cfef 7 = .ok (.iload_n 1, 1) := by decide +kernel
theorem dJ2_indexOfChar_4cfef_8 : decode cJ2_indexOfChar_4cfef 8 = .ok (.iload_n 2, 1) := by decide +kernel
theorem dJ2_indexOfChar_4cfef_9 : decode cJ2_indexOfChar_4cfef 9 = .ok (.iload_n 3, 1) := by decide +kernel
theorem dJ2_indexOfChar_4cfef_10 : decode cJ2_indexOfChar_4cfef 10 = .ok (.invokestatic 244, 3) := by decide +kernel
theorem dJ2_indexOfChar_4cfef_13 : decode cJ2_indexOfChar_4cfef 13 = .ok (.ireturn, 1) := by decide +kernel
set_option maxRecDepth 20000 in
theorem ggJ2_indexOfCharUnsafe_4cfef_J2_getChar_3b067 : GoodIn wsJ2_indexOfCharUnsafe_4cfef wsJ2_getChar_3b067 := goodIn_r _ [4, 5, 6, 7, 8, 9, 3, 10] (by decide +kernel) (by decide +kernel)
set_option maxRecDepth 20000 in
theorem gJ2_indexOfCharUnsafe_4cfef_J2_getChar_3b067 : GoodIn wsJ2_indexOfCharUnsafe_4cfef (va_wsS RJ2 71 yJ2_getChar_3b067 wsJ2_getChar_3b067) := goodIn_app (goodIn_of _ (by decide +kernel)) ggJ2_indexOfCharUnsafe_4cfef_J2_getChar_3b067
theorem dJ2_indexOfCharUnsafe_4cfef_0 : decode cJ2_indexOfCharUnsafe_4cfef 0 = .ok (.iload_n 2, 1) := by decide +kernel
theorem dJ2_indexOfCharUnsafe_4cfef_1 : decode cJ2_indexOfCharUnsafe_4cfef 1 = .ok (.istore 4, 2) := by decide +kernel
theorem dJ2_indexOfCharUnsafe_4cfef_3 : decode cJ2_indexOfCharUnsafe_4cfef 3 = .ok (.iload 4, 2) := by decide +kernel
theorem dJ2_indexOfCharUnsafe_4cfef_5 : decode cJ2_indexOfCharUnsafe_4cfef 5 = .ok (.iload_n 3, 1) := by decide +kernel
theorem dJ2_indexOfCharUnsafe_4cfef_6 : decode cJ2_indexOfCharUnsafe_4cfef 6 = .ok (.if_icmp .ge 22, 3) := by decide +kernel
theorem dJ2_indexOfCharUnsafe_4cfef_9 : decode cJ2_indexOfCharUnsafe_4cfef 9 = .ok (.aload_n 0, 1) := by decide +kernel
theorem dJ2_indexOfCharUnsafe_4cfef_10 : decode cJ2_indexOfCharUnsafe_4cfef 10 = .ok (.iload 4, 2) := by decide +kernel
theorem dJ2_indexOfCharUnsafe_4cfef_12 : decode cJ2_indexOfCharUnsafe_4cfef 12 = .ok (.invokestatic 71, 3) := by decide +kernel
theorem dJ2_indexOfCharUnsafe_4cfef_15 : decode cJ2_indexOfCharUnsafe_4cfef 15 = .ok (.iload_n 1, 1) := by decide +kernel
theorem dJ2_indexOfCharUnsafe_4cfef_16 : decode cJ2_indexOfCharUnsafe_4cfef 16 = .ok (.if_icmp .ne 6, 3) := by decide +kernel
theorem dJ2_indexOfCharUnsafe_4cfef_19 : decode cJ2_indexOfCharUnsafe_4cfef 19 = .ok (.iload 4, 2) := by decide +kernel
theorem dJ2_indexOfCharUnsafe_4cfef_21 : decode cJ2_indexOfCharUnsafe_4cfef 21 = .ok (.ireturn, 1) := by decide +kernel
theorem dJ2_indexOfCharUnsafe_4cfef_22 : decode cJ2_indexOfCharUnsafe_4cfef 22 = .ok (.iinc 4 1, 3) := by decide +kernel
theorem dJ2_indexOfCharUnsafe_4cfef_25 : decode cJ2_indexOfCharUnsafe_4cfef 25 = .ok (.goto (-22), 3) := by decide +kernel
theorem dJ2_indexOfCharUnsafe_4cfef_28 : decode cJ2_indexOfCharUnsafe_4cfef 28 = .ok (.iconst (-1), 1) := by decide +kernel
theorem dJ2_indexOfCharUnsafe_4cfef_29 : decode cJ2_indexOfCharUnsafe_4cfef 29 = .ok (.ireturn, 1) := by decide +kernel
set_option maxRecDepth 20000 in
theorem ggJ2_indexOfSupplementary_4cfef_J11_isValidCodePoint_9a6ad : GoodIn wsJ2_indexOfSupplementary_4cfef wsJ11_isValidCodePoint_9a6ad := goodIn_r _ [4] (by decide +kernel) (by decide +kernel)
set_option maxRecDepth 20000 in
theorem gJ2_indexOfSupplementary_4cfef_J11_isValidCodePoint_9a6ad : GoodIn wsJ2_indexOfSupplementary_4cfef (va_wsS RJ2 164 yJ11_isValidCodePoint_9a6ad wsJ11_isValidCodePoint_9a6ad) := goodIn_app (goodIn_of _ (by decide +kernel)) ggJ2_indexOfSupplementary_4cfef_J11_isValidCodePoint_9a6ad
set_option maxRecDepth 20000 in
theorem ggJ2_indexOfSupplementary_4cfef_J11_highSurrogate_5068e : GoodIn wsJ2_indexOfSupplementary_4cfef wsJ11_highSurrogate_5068e := goodIn_r _ [7, 8] (by decide +kernel) (by decide +kernel)
set_option maxRecDepth 20000 in
theorem gJ2_indexOfSupplementary_4cfef_J11_highSurrogate_5068e : GoodIn wsJ2_indexOfSupplementary_4cfef (va_wsS RJ2 157 yJ11_highSurrogate_5068e wsJ11_highSurrogate_5068e) := goodIn_app (goodIn_of _ (by decide +kernel)) ggJ2_indexOfSupplementary_4cfef_J11_highSurrogate_5068e
set_option maxRecDepth 20000 in
theorem ggJ2_indexOfSupplementary_4cfef_J11_lowSurrogate_5068e : GoodIn wsJ2_indexOfSupplementary_4cfef wsJ11_lowSurrogate_5068e := goodIn_r _ [11, 12] (by decide +kernel) (by decide +kernel)
set_option maxRecDepth 20000 in
theorem gJ2_indexOfSupplementary_4cfef_J11_lowSurrogate_5068e : GoodIn wsJ2_indexOfSupplementary_4cfef (va_wsS RJ2 161 yJ11_lowSurrogate_5068e wsJ11_lowSurrogate_5068e) := goodIn_app (goodIn_of _ (by decide +kernel)) ggJ2_indexOfSupplementary_4cfef_J11_lowSurrogate_5068e
set_option maxRecDepth 20000 in
theorem ggJ2_indexOfSupplementary_4cfef_J2_checkBoundsBeginEnd_d044e : GoodIn wsJ2_indexOfSupplementary_4cfef wsJ2_checkBoundsBeginEnd_d044e := goodIn_r _ [16, 17, 18, 15, 19, 20, 21, 22, 23, 24, 25, 26, 27, 28] (by decide +kernel) (by decide +kernel)
set_option maxRecDepth 20000 in
theorem gJ2_indexOfSupplementary_4cfef_J2_checkBoundsBeginEnd_d044e : GoodIn wsJ2_indexOfSupplementary_4cfef (va_wsS RJ2 96 yJ2_checkBoundsBeginEnd_d044e wsJ2_checkBoundsBeginEnd_d044e) := goodIn_app (goodIn_of _ (by decide +kernel)) ggJ2_indexOfSupplementary_4cfef_J2_checkBoundsBeginEnd_d044e
set_option maxRecDepth 20000 in
theorem ggJ2_indexOfSupplementary_4cfef_J2_getChar_3b067 : GoodIn wsJ2_indexOfSupplementary_4cfef wsJ2_getChar_3b067 := goodIn_r _ [31, 32, 33, 34, 17, 18, 15, 19] (by decide +kernel) (by decide +kernel)
set_option maxRecDepth 20000 in
theorem gJ2_indexOfSupplementary_4cfef_J2_getChar_3b067 : GoodIn wsJ2_indexOfSupplementary_4cfef (va_wsS RJ2 71 yJ2_getChar_3b067 wsJ2_getChar_3b067) := goodIn_app (goodIn_of _ (by decide +kernel)) ggJ2_indexOfSupplementary_4cfef_J2_getChar_3b067
theorem dJ2_indexOfSupplementary_4cfef_0 : decode cJ2_indexOfSupplementary_4cfef 0 = .ok (.iload_n 1, 1) := by decide +kernel
theorem dJ2_indexOfSupplementary_4cfef_1 : decode cJ2_indexOfSupplementary_4cfef 1 = .ok (.invokestatic 164, 3) := by decide +kernel
theorem dJ2_indexOfSupplementary_4cfef_4 : decode cJ2_indexOfSupplementary_4cfef 4 = .ok (.ifCond .eq 65, 3) := by decide +kernel
theorem dJ2_indexOfSupplementary_4cfef_7 : decode cJ2_indexOfSupplementary_4cfef 7 = .ok (.iload_n 1, 1) := by decide +kernel
theorem dJ2_indexOfSupplementary_4cfef_8 : decode cJ2_indexOfSupplementary_4cfef 8 = .ok (.invokestatic 157, 3) := by decide +kernel
theorem dJ2_indexOfSupplementary_4cfef_11 : decode cJ2_indexOfSupplementary_4cfef 11 = .ok (.istore 4, 2) := by decide +kernel
theorem dJ2_indexOfSupplementary_4cfef_13 : decode cJ2_indexOfSupplementary_4cfef 13 = .ok (.iload_n 1, 1) := by decide +kernel
theorem dJ2_indexOfSupplementary_4cfef_14 : decode cJ2_indexOfSupplementary_4cfef 14 = .ok (.invokestatic 161, 3) := by decide +kernel
theorem dJ2_indexOfSupplementary_4cfef_17 : decode cJ2_indexOfSupplementary_4cfef 17 = .ok (.istore 5, 2) := by decide +kernel
theorem dJ2_indexOfSupplementary_4cfef_19 : decode cJ2_indexOfSupplementary_4cfef 19 = .ok (.iload_n 2, 1) := by decide +kernel
theorem dJ2_indexOfSupplementary_4cfef_20 : decode cJ2_indexOfSupplementary_4cfef 20 = .ok (.iload_n 3, 1) := by decide +kernel
theorem dJ2_indexOfSupplementary_4cfef_21 : decode cJ2_indexOfSupplementary_4cfef 21 = .ok (.aload_n 0, 1) := by decide +kernel
theorem dJ2_indexOfSupplementary_4cfef_22 : decode cJ2_indexOfSupplementary_4cfef 22 = .ok (.invokestatic 96, 3) := by decide +kernel
theorem dJ2_indexOfSupplementary_4cfef_25 : decode cJ2_indexOfSupplementary_4cfef 25 = .ok (.iload_n 2, 1) := by decide +kernel
theorem dJ2_indexOfSupplementary_4cfef_26 : decode cJ2_indexOfSupplementary_4cfef 26 = .ok (.istore 6, 2) := by decide +kernel
theorem dJ2_indexOfSupplementary_4cfef_28 : decode cJ2_indexOfSupplementary_4cfef 28 = .ok (.iload 6, 2) := by decide +kernel
theorem dJ2_indexOfSupplementary_4cfef_30 : decode cJ2_indexOfSupplementary_4cfef 30 = .ok (.iload_n 3, 1) := by decide +kernel
theorem dJ2_indexOfSupplementary_4cfef_31 : decode cJ2_indexOfSupplementary_4cfef 31 = .ok (.iconst 1, 1) := by decide +kernel
theorem dJ2_indexOfSupplementary_4cfef_32 : decode cJ2_indexOfSupplementary_4cfef 32 = .ok (.isub, 1) := by decide +kernel
theorem dJ2_indexOfSupplementary_4cfef_33 : decode cJ2_indexOfSupplementary_4cfef 33 = .ok (.if_icmp .ge 36, 3) := by decide +kernel
theorem dJ2_indexOfSupplementary_4cfef_36 : decode cJ2_indexOfSupplementary_4cfef 36 = .ok (.aload_n 0, 1) := by decide +kernel
theorem dJ2_indexOfSupplementary_4cfef_37 : decode cJ2_indexOfSupplementary_4cfef 37 = .ok (.iload 6, 2) := by decide +kernel
theorem dJ2_indexOfSupplementary_4cfef_39 : decode cJ2_indexOfSupplementary_4cfef 39 = .ok (.invokestatic 71, 3) := by decide +kernel
theorem dJ2_indexOfSupplementary_4cfef_42 : decode cJ2_indexOfSupplementary_4cfef 42 = .ok (.iload 4, 2) := by decide +kernel
theorem dJ2_indexOfSupplementary_4cfef_44 : decode cJ2_indexOfSupplementary_4cfef 44 = .ok (.if_icmp .ne 19, 3) := by decide +kernel
theorem dJ2_indexOfSupplementary_4cfef_47 : decode cJ2_indexOfSupplementary_4cfef 47 = .ok (.aload_n 0, 1) := by decide +kernel
theorem dJ2_indexOfSupplementary_4cfef_48 : decode cJ2_indexOfSupplementary_4cfef 48 = .ok (.iload 6, 2) := by decide +kernel
theorem dJ2_indexOfSupplementary_4cfef_50 : decode cJ2_indexOfSupplementary_4cfef 50 = .ok (.iconst 1, 1) := by decide +kernel
theorem dJ2_indexOfSupplementary_4cfef_51 : decode cJ2_indexOfSupplementary_4cfef 51 = .ok (.iadd, 1) := by decide +kernel
theorem dJ2_indexOfSupplementary_4cfef_52 : decode cJ2_indexOfSupplementary_4cfef 52 = .ok (.invokestatic 71, 3) := by decide +kernel
theorem dJ2_indexOfSupplementary_4cfef_55 : decode cJ2_indexOfSupplementary_4cfef 55 = .ok (.iload 5, 2) := by decide +kernel
theorem dJ2_indexOfSupplementary_4cfef_57 : decode cJ2_indexOfSupplementary_4cfef 57 = .ok (.if_icmp .ne 6, 3) := by decide +kernel
theorem dJ2_indexOfSupplementary_4cfef_60 : decode cJ2_indexOfSupplementary_4cfef 60 = .ok (.iload 6, 2) := by decide +kernel
theorem dJ2_indexOfSupplementary_4cfef_62 : decode cJ2_indexOfSupplementary_4cfef 62 = .ok (.ireturn, 1) := by decide +kernel
theorem dJ2_indexOfSupplementary_4cfef_63 : decode cJ2_indexOfSupplementary_4cfef 63 = .ok (.iinc 6 1, 3) := by decide +kernel
theorem dJ2_indexOfSupplementary_4cfef_66 : decode cJ2_indexOfSupplementary_4cfef 66 = .ok (.goto (-38), 3) := by decide +kernel
theorem dJ2_indexOfSupplementary_4cfef_69 : decode cJ2_indexOfSupplementary_4cfef 69 = .ok (.iconst (-1), 1) := by decide +kernel
theorem dJ2_indexOfSupplementary_4cfef_70 : decode cJ2_indexOfSupplementary_4cfef 70 = .ok (.ireturn, 1) := by decide +kernel
set_option maxRecDepth 20000 in
theorem ggJ2_checkBoundsBeginEnd_d044e_J2_length_9d52b : GoodIn wsJ2_checkBoundsBeginEnd_d044e wsJ2_length_9d52b := goodIn_r _ [4] (by decide +kernel) (by decide +kernel)
set_option maxRecDepth 20000 in
theorem gJ2_checkBoundsBeginEnd_d044e_J2_length_9d52b : GoodIn wsJ2_checkBoundsBeginEnd_d044e (va_wsS RJ2 48 yJ2_length_9d52b wsJ2_length_9d52b) := goodIn_app (goodIn_of _ (by decide +kernel)) ggJ2_checkBoundsBeginEnd_d044e_J2_length_9d52b
set_option maxRecDepth 20000 in
theorem ggJ2_checkBoundsBeginEnd_d044e_J0_checkBoundsBeginEnd_23922 : GoodIn wsJ2_checkBoundsBeginEnd_d044e wsJ0_checkBoundsBeginEnd_23922 := goodIn_r _ [8, 9, 10, 11, 12, 13] (by decide +kernel) (by decide +kernel)
set_option maxRecDepth 20000 in
theorem gJ2_checkBoundsBeginEnd_d044e_J0_checkBoundsBeginEnd_23922 : GoodIn wsJ2_checkBoundsBeginEnd_d044e (va_wsS RJ2 241 yJ0_checkBoundsBeginEnd_23922 wsJ0_checkBoundsBeginEnd_23922) := goodIn_app (goodIn_of _ (by decide +kernel)) ggJ2_checkBoundsBeginEnd_d044e_J0_checkBoundsBeginEnd_23922
theorem dJ2_checkBoundsBeginEnd_d044e_0 : decode cJ2_checkBoundsBeginEnd_d044e 0 = .ok (.iload_n 0, 1) := by decide +kernel
theorem dJ2_checkBoundsBeginEnd_d044e_1 : decode cJ2_checkBoundsBeginEnd_d044e 1 = .ok (.iload_n 1, 1) := by decide +kernel
theorem dJ2_checkBoundsBeginEnd_d044e_2 : decode cJ2_checkBoundsBeginEnd_d044e 2 = .ok (.aload_n 2, 1) := by decide +kernel
theorem dJ2_checkBoundsBeginEnd_d044e_3 : decode cJ2_checkBoundsBeginEnd_d044e 3 = .ok (.invokestatic 48, 3) := by decide +kernel
theorem dJ2_checkBoundsBeginEnd_d044e_6 : decode cJ2_checkBoundsBeginEnd_d044e 6 = .ok (.invokestatic 241, 3) := by decide +kernel
theorem dJ2_checkBoundsBeginEnd_d044e_9 : decode cJ2_checkBoundsBeginEnd_d044e 9 = .ok (.return_, 1) := by decide +kernel
theorem dJ3_checkFromToIndex_8c36e_0 : decode cJ3_checkFromToIndex_8c36e 0 = .ok (.iload_n 0, 1) := by decide +kernel
theorem dJ3_checkFromToIndex_8c36e_1 : decode cJ3_checkFromToIndex_8c36e 1 = .ok (.ifCond .lt 13, 3) := by decide +kernel
theorem dJ3_checkFromToIndex_8c36e_4 : decode cJ3_checkFromToIndex_8c36e 4 = .ok (.iload_n 0, 1) := by decide +kernel
theorem dJ3_checkFromToIndex_8c36e_5 : decode cJ3_checkFromToIndex_8c36e 5 = .ok (.iload_n 1, 1) := by decide +kernel
theorem dJ3_checkFromToIndex_8c36e_6 : decode cJ3_checkFromToIndex_8c36e 6 = .ok (.if_icmp .gt 8, 3) := by decide +kernel
theorem dJ3_checkFromToIndex_8c36e_9 : decode cJ3_checkFromToIndex_8c36e 9 = .ok (.iload_n 1, 1) := by decide +kernel
theorem dJ3_checkFromToIndex_8c36e_10 : decode cJ3_checkFromToIndex_8c36e 10 = .ok (.iload_n 2, 1) := by decide +kernel
theorem dJ3_checkFromToIndex_8c36e_11 : decode cJ3_checkFromToIndex_8c36e 11 = .ok (.if_icmp .le 11, 3) := by decide +kernel
theorem dJ3_checkFromToIndex_8c36e_14 : decode cJ3_checkFromToIndex_8c36e 14 = .ok (.aload_n 3, 1) := by decide +kernel
theorem dJ3_checkFromToIndex_8c36e_15 : decode cJ3_checkFromToIndex_8c36e 15 = .ok (.iload_n 0, 1) := by decide +kernel
theorem dJ3_checkFromToIndex_8c36e_16 : decode cJ3_checkFromToIndex_8c36e 16 = .ok (.iload_n 1, 1) := by decide +kernel
theorem dJ3_checkFromToIndex_8c36e_17 : decode cJ3_checkFromToIndex_8c36e 17 = .ok (.iload_n 2, 1) := by decide +kernel
theorem dJ3_checkFromToIndex_8c36e_18 : decode cJ3_checkFromToIndex_8c36e 18 = .ok (.invokestatic 99, 3) := by decide +kernel
theorem dJ3_checkFromToIndex_8c36e_21 : decode cJ3_checkFromToIndex_8c36e 21 = .ok (.athrow, 1) := by decide +kernel
theorem dJ3_checkFromToIndex_8c36e_22 : decode cJ3_checkFromToIndex_8c36e 22 = .ok (.iload_n 0, 1) := by decide +kernel
theorem dJ3_checkFromToIndex_8c36e_23 : decode cJ3_checkFromToIndex_8c36e 23 = .ok (.ireturn, 1) := by decide +kernel
set_option maxRecDepth 20000 in
theorem ggL_law_X11_init : GoodIn wsL_law wsX11_init := goodIn_r _ [8, 9, 10, 11, 12, 13, 14, 15, 16, 17, 18, 19, 20, 21, 22, 23, 24, 25, 26, 27, 28, 29, 30, 31, 32, 33, 34, 35, 36, 37, 38, 39, 40, 41, 42, 43, 44, 45, 46, 47, 48, 49, 50, 51, 52, 53, 54, 55, 56, 57, 58, 59, 60, 61, 62, 63, 64, 65, 66, 67, 68, 69, 70, 71, 72, 73, 74, 75, 76, 77, 78, 79, 80, 81, 82, 83, 84, 85, 86, 87, 88, 89, 90, 91, 92, 93, 94, 95, 96, 97, 98, 99, 100, 101, 102, 103, 104, 105, 106, 107, 108, 109, 110, 111, 112, 113, 921, 922, 923, 924, 925, 926, 927, 928, 967, 968, 969, 970, 971, 972, 973, 974, 975, 976, 977, 978, 979, 980, 981, 982, 983, 984, 985, 986, 987, 988, 989, 990, 991, 992] (by decide +kernel) (by decide +kernel)
set_option maxRecDepth 20000 in
theorem gL_law_X11_init : GoodIn wsL_law (wsX11_init) := ggL_law_X11_init
set_option maxRecDepth 20000 in
theorem ggL_law_X12_init : GoodIn wsL_law wsX12_init := goodIn_r _ [116, 117, 10, 11, 58, 118, 119, 120, 121, 122, 123, 124, 125, 126, 127, 128, 129, 130, 131, 132, 133, 134, 135, 136, 137, 929, 930, 931, 932, 933, 934, 935, 936, 937, 938, 939, 940, 941, 942, 943, 944, 945, 946, 947, 948, 949, 950, 951, 952, 953, 954, 955, 956, 957, 958, 959, 960, 961, 962, 963, 964, 965, 966] (by decide +kernel) (by decide +kernel)
set_option maxRecDepth 20000 in
theorem gL_law_X12_init : GoodIn wsL_law (wsX12_init) := ggL_law_X12_init
set_option maxRecDepth 20000 in
theorem ggL_law_X11_letter : GoodIn wsL_law wsX11_letter := goodIn_r _ [141, 32, 142, 143, 144, 145, 31, 146, 59, 60, 921, 922, 923, 924, 925, 926, 927, 928, 967, 968] (by decide +kernel) (by decide +kernel)
set_option maxRecDepth 20000 in
theorem gL_law_X11_letter : GoodIn wsL_law (wsV RL 13 RX11 yX11_letter wsX11_letter) := goodIn_app (goodIn_of _ (by decide +kernel)) ggL_law_X11_letter
set_option maxRecDepth 20000 in
theorem ggL_law_X12_letter : GoodIn wsL_law wsX12_letter := goodIn_r _ [150, 151, 152, 118, 153, 154, 5, 155, 929, 930, 931, 932, 933, 934, 935, 936, 937, 938, 939, 940, 941, 942, 943, 944, 945, 946, 947, 948, 949, 950, 951, 952, 953, 954, 955, 956, 957, 958, 959, 960, 961, 962, 963, 964, 965, 966] (by decide +kernel) (by decide +kernel)
set_option maxRecDepth 20000 in
theorem gL_law_X12_letter : GoodIn wsL_law (wsV RL 17 RX12 yX12_letter wsX12_letter) := goodIn_app (goodIn_of _ (by decide +kernel)) ggL_law_X12_letter
set_option maxRecDepth 20000 in
theorem ggL_law_X11_blank : GoodIn wsL_law wsX11_blank := goodIn_r _ [159, 32, 142, 921, 922, 923, 924, 925, 926, 927, 928, 967, 968] (by decide +kernel) (by decide +kernel)
set_option maxRecDepth 20000 in
theorem gL_law_X11_blank : GoodIn wsL_law (wsV RL 18 RX11 yX11_blank wsX11_blank) := goodIn_app (goodIn_of _ (by decide +kernel)) ggL_law_X11_blank
set_option maxRecDepth 20000 in
theorem ggL_law_X12_blank : GoodIn wsL_law wsX12_blank := goodIn_r _ [163, 152, 929, 930, 931, 932, 933, 934, 935, 936, 937, 938, 939, 940, 941, 942, 943, 944, 945, 946, 947, 948, 949, 950, 951, 952, 953, 954, 955, 956, 957, 958, 959, 960, 961, 962, 963, 964, 965, 966] (by decide +kernel) (by decide +kernel)
set_option maxRecDepth 20000 in
theorem gL_law_X12_blank : GoodIn wsL_law (wsV RL 22 RX12 yX12_blank wsX12_blank) := goodIn_app (goodIn_of _ (by decide +kernel)) ggL_law_X12_blank
set_option maxRecDepth 20000 in
theorem ggL_law_X11_fault : GoodIn wsL_law wsX11_fault := goodIn_r _ [167, 32, 168, 169, 170, 31, 171, 60, 59, 172, 173, 174, 175, 176, 177, 178, 179, 180, 181, 182, 183, 184, 185, 186, 187, 188, 189, 190, 191, 192, 193, 194, 195, 196, 197, 198, 199, 200, 201, 202, 203, 204, 205, 206, 207, 208, 209, 210, 211, 212, 213, 214, 215, 216, 217, 218, 219, 220, 221, 222, 223, 224, 225, 226, 227, 228, 229, 230, 231, 232, 233, 234, 235, 236, 237, 238, 239, 240, 241, 242, 243, 244, 245, 246, 247, 248, 249, 250, 251, 252, 253, 254, 255, 256, 257, 258, 259, 260, 261, 262, 263, 264, 265, 266, 267, 268, 269, 921, 922, 923, 924, 925, 926, 927, 928, 967, 968] (by decide +kernel) (by decide +kernel)
set_option maxRecDepth 20000 in
theorem gL_law_X11_fault : GoodIn wsL_law (wsV RL 23 RX11 yX11_fault wsX11_fault) := goodIn_app (goodIn_of _ (by decide +kernel)) ggL_law_X11_fault
set_option maxRecDepth 20000 in
theorem ggL_law_X12_fault : GoodIn wsL_law wsX12_fault := goodIn_r _ [273, 274, 275, 276, 5, 277, 278, 279, 152, 118, 280, 281, 282, 283, 119, 284, 285, 286, 287, 288, 289, 153, 154, 155, 929, 930, 931, 932, 933, 934, 935, 936, 937, 938, 939, 940, 941, 942, 943, 944, 945, 946, 947, 948, 949, 950, 951, 952, 953, 954, 955, 956, 957, 958, 959, 960, 961, 962, 963, 964, 965, 966] (by decide +kernel) (by decide +kernel)
set_option maxRecDepth 20000 in
theorem gL_law_X12_fault : GoodIn wsL_law (wsV RL 26 RX12 yX12_fault wsX12_fault) := goodIn_app (goodIn_of _ (by decide +kernel)) ggL_law_X12_fault
set_option maxRecDepth 20000 in
theorem ggL_law_X11_hills : GoodIn wsL_law wsX11_hills := goodIn_r _ [293, 32, 36, 28, 294, 295, 142, 42, 43, 296, 297, 298, 31, 299, 60, 59, 300, 169, 170, 171, 172, 173, 174, 175, 176, 177, 178, 179, 180, 181, 182, 183, 184, 185, 186, 187, 188, 189, 190, 191, 192, 193, 194, 195, 196, 197, 198, 199, 200, 201, 202, 203, 204, 205, 206, 207, 208, 209, 210, 211, 212, 213, 214, 215, 216, 217, 218, 219, 220, 221, 222, 223, 224, 225, 226, 227, 228, 229, 230, 231, 232, 233, 234, 235, 236, 237, 238, 239, 240, 241, 242, 243, 244, 245, 246, 247, 248, 249, 250, 251, 252, 253, 254, 255, 256, 257, 258, 259, 260, 261, 262, 263, 264, 265, 266, 267, 268, 269, 301, 302, 303, 304, 305, 306, 307, 308, 309, 310, 311, 35, 312, 79, 68, 313, 72, 314, 76, 315, 77, 316, 317, 318, 40, 319, 110, 111, 107, 109, 320, 321, 322, 323, 324, 325, 326, 2, 327, 27, 328, 329, 330, 331, 921, 922, 923, 924, 925, 926, 927, 928, 969, 970, 971, 972, 973, 974, 975, 976, 977, 978, 967, 968, 979, 980, 981, 982, 983, 984, 985, 986, 987, 988, 989, 990, 991, 992] (by decide +kernel) (by decide +kernel)
set_option maxRecDepth 20000 in
theorem gL_law_X11_hills : GoodIn wsL_law (wsV RL 27 RX11 yX11_hills wsX11_hills) := goodIn_app (goodIn_of _ (by decide +kernel)) ggL_law_X11_hills
set_option maxRecDepth 20000 in
theorem ggL_law_X12_hills : GoodIn wsL_law wsX12_hills := goodIn_r _ [335, 152, 279, 278, 336, 120, 119, 121, 122, 285, 337, 338, 339, 340, 341, 342, 274, 275, 276, 5, 277, 118, 280, 281, 282, 283, 284, 286, 287, 288, 289, 153, 154, 155, 929, 930, 931, 932, 933, 934, 935, 936, 937, 938, 939, 940, 941, 942, 943, 944, 945, 946, 947, 948, 949, 950, 951, 952, 953, 954, 955, 956, 957, 958, 959, 960, 961, 962, 963, 964, 965, 966] (by decide +kernel) (by decide +kernel)
set_option maxRecDepth 20000 in
theorem gL_law_X12_hills : GoodIn wsL_law (wsV RL 30 RX12 yX12_hills wsX12_hills) := goodIn_app (goodIn_of _ (by decide +kernel)) ggL_law_X12_hills
set_option maxRecDepth 20000 in
theorem ggL_law_X11_clan : GoodIn wsL_law wsX11_clan := goodIn_r _ [346, 36, 294, 347, 28, 295, 348, 349, 350, 40, 351, 110, 352, 353, 354, 355, 356, 23, 357, 358, 359, 360, 361, 14, 362, 363, 26, 364, 365, 366, 20, 367, 368, 369, 17, 370, 371, 372, 373, 374, 112, 111, 375, 376, 377, 378, 379, 380, 381, 382, 383, 384, 385, 386, 387, 388, 389, 390, 391, 392, 393, 394, 207, 208, 209, 395, 396, 397, 398, 399, 107, 400, 401, 402, 403, 404, 405, 406, 407, 408, 409, 410, 411, 412, 413, 414, 415, 416, 109, 417, 418, 419, 420, 921, 922, 923, 924, 925, 926, 927, 928, 969, 970, 971, 972, 973, 974, 975, 976, 977, 978] (by decide +kernel) (by decide +kernel)
set_option maxRecDepth 20000 in
theorem gL_law_X11_clan : GoodIn wsL_law (wsV RL 31 RX11 yX11_clan wsX11_clan) := goodIn_app (goodIn_of _ (by decide +kernel)) ggL_law_X11_clan
set_option maxRecDepth 20000 in
theorem ggL_law_X12_clan : GoodIn wsL_law wsX12_clan := goodIn_r _ [424, 425, 426, 427, 5, 428, 336, 153, 154, 155, 429, 430, 431, 432, 433, 434, 122, 120, 121, 337, 435, 436, 437, 438, 439, 440, 441, 442, 443, 444, 445, 446, 447, 448, 449, 929, 930, 931, 932, 933, 934, 935, 936, 937, 938, 939, 940, 941, 942, 943, 944, 945, 946, 947, 948, 949, 950, 951, 952, 953, 954, 955, 956, 957, 958, 959, 960, 961, 962, 963, 964, 965, 966] (by decide +kernel) (by decide +kernel)
set_option maxRecDepth 20000 in
theorem gL_law_X12_clan : GoodIn wsL_law (wsV RL 35 RX12 yX12_clan wsX12_clan) := goodIn_app (goodIn_of _ (by decide +kernel)) ggL_law_X12_clan
set_option maxRecDepth 20000 in
theorem ggL_law_X11_as : GoodIn wsL_law wsX11_as := goodIn_r _ [453, 36, 294, 28, 348, 349, 350, 40, 351, 110, 454, 455, 2, 456, 457, 458, 459, 460, 921, 922, 923, 924, 925, 926, 927, 928, 969, 970, 971, 972, 973, 974, 975, 976, 977, 978] (by decide +kernel) (by decide +kernel)
set_option maxRecDepth 20000 in
theorem gL_law_X11_as : GoodIn wsL_law (wsV RL 36 RX11 yX11_as wsX11_as) := goodIn_app (goodIn_of _ (by decide +kernel)) ggL_law_X11_as
set_option maxRecDepth 20000 in
theorem ggL_law_X12_as : GoodIn wsL_law wsX12_as := goodIn_r _ [464, 465, 120, 425, 426, 427, 5, 428, 336, 153, 154, 155, 929, 930, 931, 932, 933, 934, 935, 936, 937, 938, 939, 940, 941, 942, 943, 944, 945, 946, 947, 948, 949, 950, 951, 952, 953, 954, 955, 956, 957, 958, 959, 960, 961, 962, 963, 964, 965, 966] (by decide +kernel) (by decide +kernel)
set_option maxRecDepth 20000 in
theorem gL_law_X12_as : GoodIn wsL_law (wsV RL 39 RX12 yX12_as wsX12_as) := goodIn_app (goodIn_of _ (by decide +kernel)) ggL_law_X12_as
set_option maxRecDepth 20000 in
theorem ggL_law_X11_rate : GoodIn wsL_law wsX11_rate := goodIn_r _ [469, 36, 294, 470, 471, 472, 2, 473, 474, 475, 476, 477, 478, 921, 922, 923, 924, 925, 926, 927, 928, 969, 970, 971, 972, 973, 974, 975, 976, 977, 978] (by decide +kernel) (by decide +kernel)
set_option maxRecDepth 20000 in
theorem gL_law_X11_rate : GoodIn wsL_law (wsV RL 40 RX11 yX11_rate wsX11_rate) := goodIn_app (goodIn_of _ (by decide +kernel)) ggL_law_X11_rate
set_option maxRecDepth 20000 in
theorem ggL_law_X12_rate : GoodIn wsL_law wsX12_rate := goodIn_r _ [482, 284, 337, 153, 154, 5, 155, 483, 484, 485, 486, 336, 929, 930, 931, 932, 933, 934, 935, 936, 937, 938, 939, 940, 941, 942, 943, 944, 945, 946, 947, 948, 949, 950, 951, 952, 953, 954, 955, 956, 957, 958, 959, 960, 961, 962, 963, 964, 965, 966] (by decide +kernel) (by decide +kernel)
set_option maxRecDepth 20000 in
theorem gL_law_X12_rate : GoodIn wsL_law (wsV RL 43 RX12 yX12_rate wsX12_rate) := goodIn_app (goodIn_of _ (by decide +kernel)) ggL_law_X12_rate
set_option maxRecDepth 20000 in
theorem ggL_law_X11_wed : GoodIn wsL_law wsX11_wed := goodIn_r _ [490, 36, 294, 491, 492, 493, 494, 495, 40, 496, 497, 349, 350, 351, 110, 498, 499, 500, 501, 112, 111, 375, 376, 377, 378, 14, 379, 380, 381, 382, 383, 384, 26, 385, 386, 387, 388, 389, 17, 390, 391, 392, 20, 393, 394, 207, 208, 209, 395, 502, 503, 504, 505, 107, 506, 211, 212, 109, 400, 401, 402, 403, 404, 23, 405, 406, 407, 408, 409, 410, 411, 412, 507, 508, 509, 67, 510, 83, 87, 84, 85, 86, 921, 922, 923, 924, 925, 926, 927, 928, 969, 970, 971, 972, 973, 979, 980, 981, 982, 983, 974, 975, 976, 977, 978] (by decide +kernel) (by decide +kernel)
set_option maxRecDepth 20000 in
theorem gL_law_X11_wed : GoodIn wsL_law (wsV RL 44 RX11 yX11_wed wsX11_wed) := goodIn_app (goodIn_of _ (by decide +kernel)) ggL_law_X11_wed
set_option maxRecDepth 20000 in
theorem ggL_law_X12_wed : GoodIn wsL_law wsX12_wed := goodIn_r _ [514, 339, 123, 120, 337, 515, 516, 517, 5, 518, 425, 426, 427, 428, 336, 153, 154, 155, 435, 436, 437, 519, 520, 521, 522, 523, 524, 525, 526, 122, 527, 528, 529, 530, 121, 438, 439, 440, 441, 929, 930, 931, 932, 933, 934, 935, 936, 937, 938, 939, 940, 941, 942, 943, 944, 945, 946, 947, 948, 949, 950, 951, 952, 953, 954, 955, 956, 957, 958, 959, 960, 961, 962, 963, 964, 965, 966] (by decide +kernel) (by decide +kernel)
set_option maxRecDepth 20000 in
theorem gL_law_X12_wed : GoodIn wsL_law (wsV RL 47 RX12 yX12_wed wsX12_wed) := goodIn_app (goodIn_of _ (by decide +kernel)) ggL_law_X12_wed
set_option maxRecDepth 20000 in
theorem ggL_law_X11_wedding : GoodIn wsL_law wsX11_wedding := goodIn_r _ [534, 36, 491, 535, 536, 537, 538, 539, 540, 541, 67, 542, 87, 921, 922, 923, 924, 925, 926, 927, 928, 969, 970, 971, 972, 973, 979, 980, 981, 982, 983] (by decide +kernel) (by decide +kernel)
set_option maxRecDepth 20000 in
theorem gL_law_X11_wedding : GoodIn wsL_law (wsV RL 48 RX11 yX11_wedding wsX11_wedding) := goodIn_app (goodIn_of _ (by decide +kernel)) ggL_law_X11_wedding
set_option maxRecDepth 20000 in
theorem ggL_law_X12_wedding : GoodIn wsL_law wsX12_wedding := goodIn_r _ [546, 339, 547, 123, 153, 154, 5, 155, 929, 930, 931, 932, 933, 934, 935, 936, 937, 938, 939, 940, 941, 942, 943, 944, 945, 946, 947, 948, 949, 950, 951, 952, 953, 954, 955, 956, 957, 958, 959, 960, 961, 962, 963, 964, 965, 966] (by decide +kernel) (by decide +kernel)
set_option maxRecDepth 20000 in
theorem gL_law_X12_wedding : GoodIn wsL_law (wsV RL 51 RX12 yX12_wedding wsX12_wedding) := goodIn_app (goodIn_of _ (by decide +kernel)) ggL_law_X12_wedding
set_option maxRecDepth 20000 in
theorem ggL_law_X11_divorce : GoodIn wsL_law wsX11_divorce := goodIn_r _ [551, 36, 491, 538, 294, 536, 535, 537, 539, 540, 541, 67, 542, 87, 552, 503, 504, 40, 505, 112, 107, 506, 211, 208, 212, 109, 400, 401, 402, 403, 404, 23, 405, 406, 407, 408, 409, 14, 410, 411, 412, 921, 922, 923, 924, 925, 926, 927, 928, 969, 970, 971, 972, 973, 979, 980, 981, 982, 983, 974, 975, 976, 977, 978] (by decide +kernel) (by decide +kernel)
set_option maxRecDepth 20000 in
theorem gL_law_X11_divorce : GoodIn wsL_law (wsV RL 52 RX11 yX11_divorce wsX11_divorce) := goodIn_app (goodIn_of _ (by decide +kernel)) ggL_law_X11_divorce
set_option maxRecDepth 20000 in
theorem ggL_law_X12_divorce : GoodIn wsL_law wsX12_divorce := goodIn_r _ [556, 339, 123, 153, 154, 5, 155, 523, 524, 525, 526, 122, 527, 528, 529, 530, 121, 438, 439, 440, 441, 120, 929, 930, 931, 932, 933, 934, 935, 936, 937, 938, 939, 940, 941, 942, 943, 944, 945, 946, 947, 948, 949, 950, 951, 952, 953, 954, 955, 956, 957, 958, 959, 960, 961, 962, 963, 964, 965, 966] (by decide +kernel) (by decide +kernel)
set_option maxRecDepth 20000 in
theorem gL_law_X12_divorce : GoodIn wsL_law (wsV RL 55 RX12 yX12_divorce wsX12_divorce) := goodIn_app (goodIn_of _ (by decide +kernel)) ggL_law_X12_divorce
set_option maxRecDepth 20000 in
theorem ggL_law_X11_year : GoodIn wsL_law wsX11_year := goodIn_r _ [560, 36, 294, 561, 474, 475, 476, 2, 477, 478, 562, 563, 564, 40, 565, 110, 107, 566, 567, 568, 506, 211, 208, 212, 569, 207, 209, 570, 571, 572, 573, 109, 502, 503, 504, 505, 112, 400, 401, 402, 403, 404, 23, 405, 406, 407, 408, 409, 14, 410, 411, 412, 574, 575, 576, 577, 578, 414, 415, 416, 921, 922, 923, 924, 925, 926, 927, 928, 969, 970, 971, 972, 973, 974, 975, 976, 977, 978] (by decide +kernel) (by decide +kernel)
set_option maxRecDepth 20000 in
theorem gL_law_X11_year : GoodIn wsL_law (wsV RL 56 RX11 yX11_year wsX11_year) := goodIn_app (goodIn_of _ (by decide +kernel)) ggL_law_X11_year
set_option maxRecDepth 20000 in
theorem ggL_law_X12_year : GoodIn wsL_law wsX12_year := goodIn_r _ [582, 338, 483, 484, 485, 5, 486, 336, 583, 584, 585, 586, 121, 122, 425, 426, 427, 428, 153, 154, 155, 527, 528, 529, 530, 438, 439, 440, 441, 120, 587, 588, 589, 590, 929, 930, 931, 932, 933, 934, 935, 936, 937, 938, 939, 940, 941, 942, 943, 944, 945, 946, 947, 948, 949, 950, 951, 952, 953, 954, 955, 956, 957, 958, 959, 960, 961, 962, 963, 964, 965, 966] (by decide +kernel) (by decide +kernel)
set_option maxRecDepth 20000 in
theorem gL_law_X12_year : GoodIn wsL_law (wsV RL 59 RX12 yX12_year wsX12_year) := goodIn_app (goodIn_of _ (by decide +kernel)) ggL_law_X12_year
set_option maxRecDepth 20000 in
theorem ggL_law_X11_settled : GoodIn wsL_law wsX11_settled := goodIn_r _ [594, 36, 294, 474, 475, 476, 2, 477, 478, 595, 596, 597, 40, 598, 110, 569, 207, 208, 209, 599, 418, 419, 420, 109, 578, 414, 415, 416, 921, 922, 923, 924, 925, 926, 927, 928, 969, 970, 971, 972, 973, 974, 975, 976, 977, 978] (by decide +kernel) (by decide +kernel)
set_option maxRecDepth 20000 in
theorem gL_law_X11_settled : GoodIn wsL_law (wsV RL 60 RX11 yX11_settled wsX11_settled) := goodIn_app (goodIn_of _ (by decide +kernel)) ggL_law_X11_settled
set_option maxRecDepth 20000 in
theorem ggL_law_X12_settled : GoodIn wsL_law wsX12_settled := goodIn_r _ [603, 483, 484, 485, 5, 486, 336, 604, 605, 606, 607, 446, 447, 448, 449, 122, 442, 443, 444, 445, 929, 930, 931, 932, 933, 934, 935, 936, 937, 938, 939, 940, 941, 942, 943, 944, 945, 946, 947, 948, 949, 950, 951, 952, 953, 954, 955, 956, 957, 958, 959, 960, 961, 962, 963, 964, 965, 966] (by decide +kernel) (by decide +kernel)
set_option maxRecDepth 20000 in
theorem gL_law_X12_settled : GoodIn wsL_law (wsV RL 63 RX12 yX12_settled wsX12_settled) := goodIn_app (goodIn_of _ (by decide +kernel)) ggL_law_X12_settled
set_option maxRecDepth 20000 in
theorem ggL_law_X11_plan : GoodIn wsL_law wsX11_plan := goodIn_r _ [611, 36, 294, 612, 613, 493, 494, 495, 40, 496, 497, 349, 350, 351, 110, 614, 615, 616, 71, 617, 91, 95, 92, 921, 922, 923, 924, 925, 926, 927, 928, 969, 970, 971, 972, 973, 984, 985, 986, 987, 988, 989, 974, 975, 976, 977, 978] (by decide +kernel) (by decide +kernel)
set_option maxRecDepth 20000 in
theorem gL_law_X11_plan : GoodIn wsL_law (wsV RL 64 RX11 yX11_plan wsX11_plan) := goodIn_app (goodIn_of _ (by decide +kernel)) ggL_law_X11_plan
set_option maxRecDepth 20000 in
theorem ggL_law_X12_plan : GoodIn wsL_law wsX12_plan := goodIn_r _ [621, 340, 124, 515, 516, 517, 5, 518, 425, 426, 427, 428, 336, 153, 154, 155, 929, 930, 931, 932, 933, 934, 935, 936, 937, 938, 939, 940, 941, 942, 943, 944, 945, 946, 947, 948, 949, 950, 951, 952, 953, 954, 955, 956, 957, 958, 959, 960, 961, 962, 963, 964, 965, 966] (by decide +kernel) (by decide +kernel)
set_option maxRecDepth 20000 in
theorem gL_law_X12_plan : GoodIn wsL_law (wsV RL 67 RX12 yX12_plan wsX12_plan) := goodIn_app (goodIn_of _ (by decide +kernel)) ggL_law_X12_plan
set_option maxRecDepth 20000 in
theorem ggL_law_X11_dream : GoodIn wsL_law wsX11_dream := goodIn_r _ [625, 36, 612, 613, 921, 922, 923, 924, 925, 926, 927, 928, 969, 970, 971, 972, 973, 984, 985, 986, 987, 988, 989] (by decide +kernel) (by decide +kernel)
set_option maxRecDepth 20000 in
theorem gL_law_X11_dream : GoodIn wsL_law (wsV RL 68 RX11 yX11_dream wsX11_dream) := goodIn_app (goodIn_of _ (by decide +kernel)) ggL_law_X11_dream
set_option maxRecDepth 20000 in
theorem ggL_law_X12_dream : GoodIn wsL_law wsX12_dream := goodIn_r _ [629, 340, 929, 930, 931, 932, 933, 934, 935, 936, 937, 938, 939, 940, 941, 942, 943, 944, 945, 946, 947, 948, 949, 950, 951, 952, 953, 954, 955, 956, 957, 958, 959, 960, 961, 962, 963, 964, 965, 966] (by decide +kernel) (by decide +kernel)
set_option maxRecDepth 20000 in
theorem gL_law_X12_dream : GoodIn wsL_law (wsV RL 71 RX12 yX12_dream wsX12_dream) := goodIn_app (goodIn_of _ (by decide +kernel)) ggL_law_X12_dream
set_option maxRecDepth 20000 in
theorem ggL_law_X11_order : GoodIn wsL_law wsX11_order := goodIn_r _ [633, 36, 612, 294, 41, 634, 474, 475, 476, 2, 477, 478, 635, 636, 637, 71, 638, 96, 93, 94, 639, 640, 641, 642, 643, 644, 645, 646, 647, 648, 649, 40, 650, 110, 111, 107, 109, 651, 652, 653, 654, 95, 91, 92, 655, 499, 500, 501, 112, 375, 376, 377, 378, 14, 379, 380, 381, 382, 383, 384, 26, 385, 386, 387, 388, 389, 17, 390, 391, 392, 20, 393, 394, 207, 208, 209, 395, 502, 503, 504, 505, 506, 211, 212, 400, 401, 402, 403, 404, 23, 405, 406, 407, 408, 409, 410, 411, 412, 656, 575, 576, 577, 578, 414, 415, 416, 657, 658, 659, 660, 661, 662, 663, 664, 665, 666, 667, 668, 921, 922, 923, 924, 925, 926, 927, 928, 969, 970, 971, 972, 973, 984, 985, 986, 987, 988, 989, 974, 975, 976, 977, 978] (by decide +kernel) (by decide +kernel)
set_option maxRecDepth 20000 in
theorem gL_law_X11_order : GoodIn wsL_law (wsV RL 72 RX11 yX11_order wsX11_order) := goodIn_app (goodIn_of _ (by decide +kernel)) ggL_law_X11_order
set_option maxRecDepth 20000 in
theorem ggL_law_X12_order : GoodIn wsL_law wsX12_order := goodIn_r _ [672, 433, 434, 153, 154, 5, 155, 483, 484, 485, 486, 336, 673, 674, 675, 676, 340, 128, 677, 678, 679, 680, 124, 127, 337, 681, 682, 683, 684, 121, 125, 122, 126, 685, 686, 687, 688, 689, 690, 691, 519, 520, 521, 522, 120, 435, 436, 437, 523, 524, 525, 526, 527, 528, 529, 530, 438, 439, 440, 441, 587, 588, 589, 590, 692, 693, 694, 695, 929, 930, 931, 932, 933, 934, 935, 936, 937, 938, 939, 940, 941, 942, 943, 944, 945, 946, 947, 948, 949, 950, 951, 952, 953, 954, 955, 956, 957, 958, 959, 960, 961, 962, 963, 964, 965, 966] (by decide +kernel) (by decide +kernel)
set_option maxRecDepth 20000 in
theorem gL_law_X12_order : GoodIn wsL_law (wsV RL 75 RX12 yX12_order wsX12_order) := goodIn_app (goodIn_of _ (by decide +kernel)) ggL_law_X12_order
set_option maxRecDepth 20000 in
theorem ggL_law_X11_high : GoodIn wsL_law wsX11_high := goodIn_r _ [699, 36, 612, 294, 41, 474, 475, 476, 2, 477, 478, 700, 701, 702, 71, 703, 704, 643, 644, 645, 646, 93, 647, 648, 649, 40, 650, 110, 111, 107, 109, 651, 652, 653, 654, 95, 91, 92, 655, 499, 500, 501, 112, 375, 376, 377, 378, 14, 379, 380, 381, 382, 383, 384, 26, 385, 386, 387, 388, 389, 17, 390, 391, 392, 20, 393, 394, 207, 208, 209, 395, 502, 503, 504, 505, 506, 211, 212, 400, 401, 402, 403, 404, 23, 405, 406, 407, 408, 409, 410, 411, 412, 705, 706, 707, 708, 709, 414, 415, 416, 921, 922, 923, 924, 925, 926, 927, 928, 969, 970, 971, 972, 973, 974, 975, 976, 977, 978, 984, 985, 986, 987, 988, 989] (by decide +kernel) (by decide +kernel)
set_option maxRecDepth 20000 in
theorem gL_law_X11_high : GoodIn wsL_law (wsV RL 76 RX11 yX11_high wsX11_high) := goodIn_app (goodIn_of _ (by decide +kernel)) ggL_law_X11_high
set_option maxRecDepth 20000 in
theorem ggL_law_X12_high : GoodIn wsL_law wsX12_high := goodIn_r _ [713, 483, 484, 485, 5, 486, 336, 714, 715, 716, 717, 129, 340, 124, 442, 443, 444, 445, 122, 681, 682, 683, 684, 121, 125, 126, 685, 686, 687, 519, 520, 521, 522, 120, 435, 436, 437, 523, 524, 525, 526, 527, 528, 529, 530, 438, 439, 440, 441, 692, 693, 694, 695, 929, 930, 931, 932, 933, 934, 935, 936, 937, 938, 939, 940, 941, 942, 943, 944, 945, 946, 947, 948, 949, 950, 951, 952, 953, 954, 955, 956, 957, 958, 959, 960, 961, 962, 963, 964, 965, 966] (by decide +kernel) (by decide +kernel)
set_option maxRecDepth 20000 in
theorem gL_law_X12_high : GoodIn wsL_law (wsV RL 79 RX12 yX12_high wsX12_high) := goodIn_app (goodIn_of _ (by decide +kernel)) ggL_law_X12_high
set_option maxRecDepth 20000 in
theorem ggL_law_X11_tell : GoodIn wsL_law wsX11_tell := goodIn_r _ [721, 36, 722, 723, 471, 472, 2, 473, 724, 725, 726, 75, 727, 100, 102, 101, 921, 922, 923, 924, 925, 926, 927, 928, 969, 970, 971, 972, 973, 990, 991, 992] (by decide +kernel) (by decide +kernel)
set_option maxRecDepth 20000 in
theorem gL_law_X11_tell : GoodIn wsL_law (wsV RL 80 RX11 yX11_tell wsX11_tell) := goodIn_app (goodIn_of _ (by decide +kernel)) ggL_law_X11_tell
set_option maxRecDepth 20000 in
theorem ggL_law_X12_tell : GoodIn wsL_law wsX12_tell := goodIn_r _ [731, 284, 732, 341, 130, 153, 154, 5, 155, 929, 930, 931, 932, 933, 934, 935, 936, 937, 938, 939, 940, 941, 942, 943, 944, 945, 946, 947, 948, 949, 950, 951, 952, 953, 954, 955, 956, 957, 958, 959, 960, 961, 962, 963, 964, 965, 966] (by decide +kernel) (by decide +kernel)
set_option maxRecDepth 20000 in
theorem gL_law_X12_tell : GoodIn wsL_law (wsV RL 83 RX12 yX12_tell wsX12_tell) := goodIn_app (goodIn_of _ (by decide +kernel)) ggL_law_X12_tell
set_option maxRecDepth 20000 in
theorem ggL_law_X11_forget : GoodIn wsL_law wsX11_forget := goodIn_r _ [736, 36, 722, 723, 921, 922, 923, 924, 925, 926, 927, 928, 969, 970, 971, 972, 973, 990, 991, 992] (by decide +kernel) (by decide +kernel)
set_option maxRecDepth 20000 in
theorem gL_law_X11_forget : GoodIn wsL_law (wsV RL 84 RX11 yX11_forget wsX11_forget) := goodIn_app (goodIn_of _ (by decide +kernel)) ggL_law_X11_forget
set_option maxRecDepth 20000 in
theorem ggL_law_X12_forget : GoodIn wsL_law wsX12_forget := goodIn_r _ [740, 341, 929, 930, 931, 932, 933, 934, 935, 936, 937, 938, 939, 940, 941, 942, 943, 944, 945, 946, 947, 948, 949, 950, 951, 952, 953, 954, 955, 956, 957, 958, 959, 960, 961, 962, 963, 964, 965, 966] (by decide +kernel) (by decide +kernel)
set_option maxRecDepth 20000 in
theorem gL_law_X12_forget : GoodIn wsL_law (wsV RL 87 RX12 yX12_forget wsX12_forget) := goodIn_app (goodIn_of _ (by decide +kernel)) ggL_law_X12_forget
set_option maxRecDepth 20000 in
theorem ggL_law_X11_which : GoodIn wsL_law wsX11_which := goodIn_r _ [744, 36, 722, 27, 745, 746, 747, 75, 748, 749, 750, 751, 752, 102, 100, 101, 753, 376, 377, 378, 14, 379, 754, 381, 382, 383, 384, 26, 385, 386, 387, 388, 389, 17, 390, 391, 392, 20, 393, 394, 207, 208, 209, 395, 921, 922, 923, 924, 925, 926, 927, 928, 969, 970, 971, 972, 973, 990, 991, 992] (by decide +kernel) (by decide +kernel)
set_option maxRecDepth 20000 in
theorem gL_law_X11_which : GoodIn wsL_law (wsV RL 88 RX11 yX11_which wsX11_which) := goodIn_app (goodIn_of _ (by decide +kernel)) ggL_law_X11_which
set_option maxRecDepth 20000 in
theorem ggL_law_X12_which : GoodIn wsL_law wsX12_which := goodIn_r _ [758, 759, 760, 761, 5, 762, 341, 130, 435, 436, 437, 929, 930, 931, 932, 933, 934, 935, 936, 937, 938, 939, 940, 941, 942, 943, 944, 945, 946, 947, 948, 949, 950, 951, 952, 953, 954, 955, 956, 957, 958, 959, 960, 961, 962, 963, 964, 965, 966] (by decide +kernel) (by decide +kernel)
set_option maxRecDepth 20000 in
theorem gL_law_X12_which : GoodIn wsL_law (wsV RL 91 RX12 yX12_which wsX12_which) := goodIn_app (goodIn_of _ (by decide +kernel)) ggL_law_X12_which
set_option maxRecDepth 20000 in
theorem ggL_law_X11_ask : GoodIn wsL_law wsX11_ask := goodIn_r _ [766, 36, 722, 27, 767, 768, 769, 75, 770, 771, 746, 747, 748, 749, 750, 751, 752, 102, 100, 101, 753, 376, 377, 378, 14, 379, 754, 381, 382, 383, 384, 26, 385, 386, 387, 388, 389, 17, 390, 391, 392, 20, 393, 394, 207, 208, 209, 395, 772, 773, 774, 775, 776, 777, 778, 779, 780, 781, 921, 922, 923, 924, 925, 926, 927, 928, 969, 970, 971, 972, 973, 990, 991, 992] (by decide +kernel) (by decide +kernel)
set_option maxRecDepth 20000 in
theorem gL_law_X11_ask : GoodIn wsL_law (wsV RL 92 RX11 yX11_ask wsX11_ask) := goodIn_app (goodIn_of _ (by decide +kernel)) ggL_law_X11_ask
set_option maxRecDepth 20000 in
theorem ggL_law_X12_ask : GoodIn wsL_law wsX12_ask := goodIn_r _ [785, 786, 787, 788, 5, 789, 131, 759, 760, 761, 762, 341, 130, 435, 436, 437, 929, 930, 931, 932, 933, 934, 935, 936, 937, 938, 939, 940, 941, 942, 943, 944, 945, 946, 947, 948, 949, 950, 951, 952, 953, 954, 955, 956, 957, 958, 959, 960, 961, 962, 963, 964, 965, 966] (by decide +kernel) (by decide +kernel)
set_option maxRecDepth 20000 in
theorem gL_law_X12_ask : GoodIn wsL_law (wsV RL 95 RX12 yX12_ask wsX12_ask) := goodIn_app (goodIn_of _ (by decide +kernel)) ggL_law_X12_ask
set_option maxRecDepth 20000 in
theorem ggL_law_X11_ages : GoodIn wsL_law wsX11_ages := goodIn_r _ [793, 41, 36, 294, 474, 475, 476, 2, 477, 478, 794, 648, 649, 40, 650, 110, 111, 107, 109, 795, 796, 797, 798, 799, 800, 801, 802, 803, 804, 805, 806, 807, 808, 809, 810, 494, 495, 496, 497, 349, 350, 351, 811, 499, 500, 501, 112, 375, 376, 377, 378, 14, 379, 380, 381, 382, 383, 384, 26, 385, 386, 387, 388, 389, 17, 390, 391, 392, 20, 393, 394, 207, 208, 209, 395, 502, 503, 504, 505, 506, 211, 212, 400, 401, 402, 403, 404, 23, 405, 406, 407, 408, 409, 410, 411, 412, 812, 563, 564, 565, 566, 567, 568, 569, 570, 571, 572, 573, 574, 575, 576, 577, 578, 414, 415, 416, 813, 814, 815, 816, 921, 922, 923, 924, 925, 926, 927, 928, 969, 970, 971, 972, 973, 974, 975, 976, 977, 978] (by decide +kernel) (by decide +kernel)
set_option maxRecDepth 20000 in
theorem gL_law_X11_ages : GoodIn wsL_law (wsV RL 96 RX11 yX11_ages wsX11_ages) := goodIn_app (goodIn_of _ (by decide +kernel)) ggL_law_X11_ages
set_option maxRecDepth 20000 in
theorem ggL_law_X12_ages : GoodIn wsL_law wsX12_ages := goodIn_r _ [820, 821, 822, 823, 336, 337, 153, 154, 5, 155, 483, 484, 485, 486, 681, 682, 683, 684, 121, 125, 122, 126, 685, 686, 687, 824, 825, 826, 827, 828, 829, 830, 831, 519, 520, 521, 522, 120, 435, 436, 437, 523, 524, 525, 526, 527, 528, 529, 530, 438, 439, 440, 441, 583, 584, 585, 586, 425, 426, 427, 428, 587, 588, 589, 590, 832, 833, 834, 835, 692, 693, 694, 695, 929, 930, 931, 932, 933, 934, 935, 936, 937, 938, 939, 940, 941, 942, 943, 944, 945, 946, 947, 948, 949, 950, 951, 952, 953, 954, 955, 956, 957, 958, 959, 960, 961, 962, 963, 964, 965, 966] (by decide +kernel) (by decide +kernel)
set_option maxRecDepth 20000 in
theorem gL_law_X12_ages : GoodIn wsL_law (wsV RL 100 RX12 yX12_ages wsX12_ages) := goodIn_app (goodIn_of _ (by decide +kernel)) ggL_law_X12_ages
set_option maxRecDepth 20000 in
theorem ggL_law_X11_image : GoodIn wsL_law wsX11_image := goodIn_r _ [839, 37, 36, 42, 561, 474, 475, 476, 2, 477, 294, 478, 840, 841, 842, 35, 843, 79, 68, 72, 76, 77, 844, 648, 649, 40, 650, 110, 111, 107, 109, 845, 846, 847, 67, 848, 87, 83, 84, 85, 86, 849, 850, 851, 71, 852, 95, 91, 92, 853, 854, 855, 75, 856, 102, 100, 101, 921, 922, 923, 924, 925, 926, 927, 928, 969, 970, 971, 972, 973, 974, 975, 976, 977, 978, 979, 980, 981, 982, 983, 984, 985, 986, 987, 988, 989, 990, 991, 992] (by decide +kernel) (by decide +kernel)
set_option maxRecDepth 20000 in
theorem gL_law_X11_image : GoodIn wsL_law (wsV RL 101 RX11 yX11_image wsX11_image) := goodIn_app (goodIn_of _ (by decide +kernel)) ggL_law_X11_image
set_option maxRecDepth 20000 in
theorem ggL_law_X12_image : GoodIn wsL_law wsX12_image := goodIn_r _ [860, 121, 132, 122, 133, 123, 134, 124, 135, 130, 136, 337, 861, 338, 862, 339, 863, 340, 864, 341, 865, 342, 137, 483, 484, 485, 5, 486, 336, 685, 686, 687, 929, 930, 931, 932, 933, 934, 935, 936, 937, 938, 939, 940, 941, 942, 943, 944, 945, 946, 947, 948, 949, 950, 951, 952, 953, 954, 955, 956, 957, 958, 959, 960, 961, 962, 963, 964, 965, 966] (by decide +kernel) (by decide +kernel)
set_option maxRecDepth 20000 in
theorem gL_law_X12_image : GoodIn wsL_law (wsV RL 104 RX12 yX12_image wsX12_image) := goodIn_app (goodIn_of _ (by decide +kernel)) ggL_law_X12_image
set_option maxRecDepth 20000 in
theorem ggL_law_X11_restore : GoodIn wsL_law wsX11_restore := goodIn_r _ [869, 42, 36, 37, 561, 840, 841, 842, 35, 843, 79, 68, 72, 76, 77, 844, 648, 649, 40, 650, 110, 111, 107, 109, 845, 846, 847, 67, 848, 87, 83, 84, 85, 86, 849, 850, 851, 71, 852, 95, 91, 92, 853, 854, 855, 75, 856, 102, 100, 101, 921, 922, 923, 924, 925, 926, 927, 928, 969, 970, 971, 972, 973, 974, 975, 976, 977, 978, 979, 980, 981, 982, 983, 984, 985, 986, 987, 988, 989, 990, 991, 992] (by decide +kernel) (by decide +kernel)
set_option maxRecDepth 20000 in
theorem gL_law_X11_restore : GoodIn wsL_law (wsV RL 105 RX11 yX11_restore wsX11_restore) := goodIn_app (goodIn_of _ (by decide +kernel)) ggL_law_X11_restore
set_option maxRecDepth 20000 in
theorem ggL_law_X12_restore : GoodIn wsL_law wsX12_restore := goodIn_r _ [873, 137, 342, 132, 121, 133, 122, 134, 123, 135, 124, 136, 130, 861, 337, 862, 338, 863, 339, 864, 340, 865, 341, 685, 686, 5, 687, 929, 930, 931, 932, 933, 934, 935, 936, 937, 938, 939, 940, 941, 942, 943, 944, 945, 946, 947, 948, 949, 950, 951, 952, 953, 954, 955, 956, 957, 958, 959, 960, 961, 962, 963, 964, 965, 966] (by decide +kernel) (by decide +kernel)
set_option maxRecDepth 20000 in
theorem gL_law_X12_restore : GoodIn wsL_law (wsV RL 108 RX12 yX12_restore wsX12_restore) := goodIn_app (goodIn_of _ (by decide +kernel)) ggL_law_X12_restore
set_option maxRecDepth 20000 in
theorem ggL_law_X11_count : GoodIn wsL_law wsX11_count := goodIn_r _ [877, 36, 294, 478, 470, 491, 492, 561, 612, 613, 722, 723, 32, 142, 43, 813, 814, 815, 40, 816, 110, 107, 574, 575, 576, 577, 578, 414, 415, 416, 109, 921, 922, 923, 924, 925, 926, 927, 928, 969, 970, 971, 972, 973, 974, 975, 976, 977, 978, 979, 980, 981, 982, 983, 984, 985, 986, 987, 988, 989, 990, 991, 992, 967, 968] (by decide +kernel) (by decide +kernel)
set_option maxRecDepth 20000 in
theorem gL_law_X11_count : GoodIn wsL_law (wsV RL 109 RX11 yX11_count wsX11_count) := goodIn_app (goodIn_of _ (by decide +kernel)) ggL_law_X11_count
set_option maxRecDepth 20000 in
theorem ggL_law_X12_count : GoodIn wsL_law wsX12_count := goodIn_r _ [881, 882, 883, 884, 5, 885, 336, 337, 339, 338, 340, 341, 152, 342, 832, 833, 834, 835, 121, 587, 588, 589, 590, 122, 929, 930, 931, 932, 933, 934, 935, 936, 937, 938, 939, 940, 941, 942, 943, 944, 945, 946, 947, 948, 949, 950, 951, 952, 953, 954, 955, 956, 957, 958, 959, 960, 961, 962, 963, 964, 965, 966] (by decide +kernel) (by decide +kernel)
set_option maxRecDepth 20000 in
theorem gL_law_X12_count : GoodIn wsL_law (wsV RL 112 RX12 yX12_count wsX12_count) := goodIn_app (goodIn_of _ (by decide +kernel)) ggL_law_X12_count
set_option maxRecDepth 20000 in
theorem ggL_law_X11_digest : GoodIn wsL_law wsX11_digest := goodIn_r _ [889, 890, 36, 294, 478, 891, 491, 492, 32, 142, 892, 893, 344, 345, 2, 346, 347, 28, 295, 348, 349, 350, 40, 351, 110, 352, 353, 354, 355, 356, 23, 357, 358, 359, 360, 361, 14, 362, 363, 26, 364, 365, 366, 20, 367, 368, 369, 17, 370, 371, 372, 373, 374, 112, 111, 375, 376, 377, 378, 379, 380, 381, 382, 383, 384, 385, 386, 387, 388, 389, 390, 391, 392, 393, 394, 207, 208, 209, 395, 396, 397, 398, 399, 107, 400, 401, 402, 403, 404, 405, 406, 407, 408, 409, 410, 411, 412, 413, 414, 415, 416, 109, 417, 418, 419, 420, 894, 895, 896, 897, 898, 532, 533, 534, 535, 536, 537, 538, 539, 540, 541, 67, 542, 87, 474, 475, 476, 477, 899, 900, 901, 902, 612, 41, 634, 595, 596, 597, 598, 569, 599, 578, 635, 636, 637, 71, 638, 96, 93, 94, 639, 640, 641, 642, 643, 644, 645, 646, 647, 648, 649, 650, 651, 652, 653, 654, 95, 91, 92, 655, 499, 500, 501, 502, 503, 504, 505, 506, 211, 212, 656, 575, 576, 577, 657, 658, 659, 660, 661, 662, 663, 664, 665, 666, 667, 668, 700, 701, 702, 703, 704, 705, 706, 707, 708, 709, 903, 742, 743, 744, 722, 27, 745, 746, 747, 75, 748, 749, 750, 751, 752, 102, 100, 101, 753, 754, 904, 764, 765, 766, 767, 768, 769, 770, 771, 772, 773, 774, 775, 776, 777, 778, 779, 780, 781, 905, 875, 876, 877, 470, 561, 613, 723, 43, 813, 814, 815, 816, 574, 921, 922, 923, 924, 925, 926, 927, 928, 969, 970, 971, 972, 973, 974, 975, 976, 977, 978, 979, 980, 981, 982, 983, 967, 968, 984, 985, 986, 987, 988, 989, 990, 991, 992] (by decide +kernel) (by decide +kernel)
set_option maxRecDepth 20000 in
theorem gL_law_X11_digest : GoodIn wsL_law (wsV RL 113 RX11 yX11_digest wsX11_digest) := goodIn_app (goodIn_of _ (by decide +kernel)) ggL_law_X11_digest
set_option maxRecDepth 20000 in
theorem ggL_law_X12_digest : GoodIn wsL_law wsX12_digest := goodIn_r _ [909, 910, 911, 336, 339, 123, 152, 118, 912, 913, 914, 5, 915, 429, 430, 431, 432, 433, 434, 122, 120, 121, 337, 153, 154, 155, 435, 436, 437, 438, 439, 440, 441, 442, 443, 444, 445, 446, 447, 448, 449, 916, 917, 918, 919, 920, 483, 484, 485, 486, 604, 605, 606, 607, 673, 674, 675, 676, 340, 128, 677, 678, 679, 680, 124, 127, 681, 682, 683, 684, 125, 126, 685, 686, 687, 688, 689, 690, 691, 519, 520, 521, 522, 523, 524, 525, 526, 527, 528, 529, 530, 587, 588, 589, 590, 692, 693, 694, 695, 714, 715, 716, 717, 129, 759, 760, 761, 762, 341, 130, 786, 787, 788, 789, 131, 882, 883, 884, 885, 338, 342, 832, 833, 834, 835, 929, 930, 931, 932, 933, 934, 935, 936, 937, 938, 939, 940, 941, 942, 943, 944, 945, 946, 947, 948, 949, 950, 951, 952, 953, 954, 955, 956, 957, 958, 959, 960, 961, 962, 963, 964, 965, 966] (by decide +kernel) (by decide +kernel)
set_option maxRecDepth 20000 in
theorem gL_law_X12_digest : GoodIn wsL_law (wsV RL 117 RX12 yX12_digest wsX12_digest) := goodIn_app (goodIn_of _ (by decide +kernel)) ggL_law_X12_digest
theorem dL_law_0 : decode cL_law 0 = .ok (.new 7, 3) := by decide +kernel
theorem dL_law_3 : decode cL_law 3 = .ok (.dup, 1) := by decide +kernel
theorem dL_law_4 : decode cL_law 4 = .ok (.invokespecial 9, 3) := by decide +kernel
theorem dL_law_7 : decode cL_law 7 = .ok (.astore_n 1, 1) := by decide +kernel
theorem dL_law_8 : decode cL_law 8 = .ok (.new 10, 3) := by decide +kernel
theorem dL_law_11 : decode cL_law 11 = .ok (.dup, 1) := by decide +kernel
theorem dL_law_12 : decode cL_law 12 = .ok (.invokespecial 12, 3) := by decide +kernel
theorem dL_law_15 : decode cL_law 15 = .ok (.astore_n 2, 1) := by decide +kernel
theorem dL_law_16 : decode cL_law 16 = .ok (.iconst 0, 1) := by decide +kernel
theorem dL_law_17 : decode cL_law 17 = .ok (.istore_n 3, 1) := by decide +kernel
theorem dL_law_18 : decode cL_law 18 = .ok (.iload_n 3, 1) := by decide +kernel
theorem dL_law_19 : decode cL_law 19 = .ok (.aload_n 0, 1) := by decide +kernel
theorem dL_law_20 : decode cL_law 20 = .ok (.arraylength, 1) := by decide +kernel
theorem dL_law_21 : decode cL_law 21 = .ok (.iconst 4, 1) := by decide +kernel
theorem dL_law_22 : decode cL_law 22 = .ok (.isub, 1) := by decide +kernel
theorem dL_law_23 : decode cL_law 23 = .ok (.if_icmp .gt 657, 3) := by decide +kernel
theorem dL_law_26 : decode cL_law 26 = .ok (.aload_n 0, 1) := by decide +kernel
theorem dL_law_27 : decode cL_law 27 = .ok (.iload_n 3, 1) := by decide +kernel
theorem dL_law_28 : decode cL_law 28 = .ok (.iaload, 1) := by decide +kernel
theorem dL_law_29 : decode cL_law 29 = .ok (.bipush 31, 2) := by decide +kernel
theorem dL_law_31 : decode cL_law 31 = .ok (.iand, 1) := by decide +kernel
theorem dL_law_32 : decode cL_law 32 = .ok (.tableswitch 642 0 24 #[116, 139, 152, 165, 178, 211, 244, 267, 300, 333, 356, 369, 382, 415, 428, 451, 464, 497, 510, 523, 536, 579, 592, 605, 628], 116) := by decide +kernel
theorem dL_law_148 : decode cL_law 148 = .ok (.aload_n 1, 1) := by decide +kernel
theorem dL_law_149 : decode cL_law 149 = .ok (.aload_n 0, 1) := by decide +kernel
theorem dL_law_150 : decode cL_law 150 = .ok (.iload_n 3, 1) := by decide +kernel
theorem dL_law_151 : decode cL_law 151 = .ok (.iconst 1, 1) := by decide +kernel
theorem dL_law_152 : decode cL_law 152 = .ok (.iadd, 1) := by decide +kernel
theorem dL_law_153 : decode cL_law 153 = .ok (.iaload, 1) := by decide +kernel
theorem dL_law_154 : decode cL_law 154 = .ok (.invokevirtual 13, 3) := by decide +kernel
theorem dL_law_157 : decode cL_law 157 = .ok (.aload_n 2, 1) := by decide +kernel
theorem dL_law_158 : decode cL_law 158 = .ok (.aload_n 0, 1) := by decide +kernel
theorem dL_law_159 : decode cL_law 159 = .ok (.iload_n 3, 1) := by decide +kernel
theorem dL_law_160 : decode cL_law 160 = .ok (.iconst 1, 1) := by decide +kernel
theorem dL_law_161 : decode cL_law 161 = .ok (.iadd, 1) := by decide +kernel
theorem dL_law_162 : decode cL_law 162 = .ok (.iaload, 1) := by decide +kernel
theorem dL_law_163 : decode cL_law 163 = .ok (.invokevirtual 17, 3) := by decide +kernel
theorem dL_law_166 : decode cL_law 166 = .ok (.if_icmp .eq 508, 3) := by decide +kernel
theorem dL_law_169 : decode cL_law 169 = .ok (.iconst 0, 1) := by decide +kernel
theorem dL_law_170 : decode cL_law 170 = .ok (.ireturn, 1) := by decide +kernel
theorem dL_law_171 : decode cL_law 171 = .ok (.aload_n 1, 1) := by decide +kernel
theorem dL_law_172 : decode cL_law 172 = .ok (.invokevirtual 18, 3) := by decide +kernel
theorem dL_law_175 : decode cL_law 175 = .ok (.aload_n 2, 1) := by decide +kernel
theorem dL_law_176 : decode cL_law 176 = .ok (.invokevirtual 22, 3) := by decide +kernel
theorem dL_law_179 : decode cL_law 179 = .ok (.if_icmp .eq 495, 3) := by decide +kernel
theorem dL_law_182 : decode cL_law 182 = .ok (.iconst 0, 1) := by decide +kernel
theorem dL_law_183 : decode cL_law 183 = .ok (.ireturn, 1) := by decide +kernel
theorem dL_law_184 : decode cL_law 184 = .ok (.aload_n 1, 1) := by decide +kernel
theorem dL_law_185 : decode cL_law 185 = .ok (.invokevirtual 23, 3) := by decide +kernel
theorem dL_law_188 : decode cL_law 188 = .ok (.aload_n 2, 1) := by decide +kernel
theorem dL_law_189 : decode cL_law 189 = .ok (.invokevirtual 26, 3) := by decide +kernel
theorem dL_law_192 : decode cL_law 192 = .ok (.if_icmp .eq 482, 3) := by decide +kernel
theorem dL_law_195 : decode cL_law 195 = .ok (.iconst 0, 1) := by decide +kernel
theorem dL_law_196 : decode cL_law 196 = .ok (.ireturn, 1) := by decide +kernel
theorem dL_law_197 : decode cL_law 197 = .ok (.aload_n 1, 1) := by decide +kernel
theorem dL_law_198 : decode cL_law 198 = .ok (.invokevirtual 27, 3) := by decide +kernel
theorem dL_law_201 : decode cL_law 201 = .ok (.aload_n 2, 1) := by decide +kernel
theorem dL_law_202 : decode cL_law 202 = .ok (.invokevirtual 30, 3) := by decide +kernel
theorem dL_law_205 : decode cL_law 205 = .ok (.if_icmp .eq 469, 3) := by decide +kernel
theorem dL_law_208 : decode cL_law 208 = .ok (.iconst 0, 1) := by decide +kernel
theorem dL_law_209 : decode cL_law 209 = .ok (.ireturn, 1) := by decide +kernel
theorem dL_law_210 : decode cL_law 210 = .ok (.aload_n 1, 1) := by decide +kernel
theorem dL_law_211 : decode cL_law 211 = .ok (.aload_n 0, 1) := by decide +kernel
theorem dL_law_212 : decode cL_law 212 = .ok (.iload_n 3, 1) := by decide +kernel
theorem dL_law_213 : decode cL_law 213 = .ok (.iconst 1, 1) := by decide +kernel
theorem dL_law_214 : decode cL_law 214 = .ok (.iadd, 1) := by decide +kernel
theorem dL_law_215 : decode cL_law 215 = .ok (.iaload, 1) := by decide +kernel
theorem dL_law_216 : decode cL_law 216 = .ok (.aload_n 0, 1) := by decide +kernel
theorem dL_law_217 : decode cL_law 217 = .ok (.iload_n 3, 1) := by decide +kernel
theorem dL_law_218 : decode cL_law 218 = .ok (.iconst 2, 1) := by decide +kernel
theorem dL_law_219 : decode cL_law 219 = .ok (.iadd, 1) := by decide +kernel
theorem dL_law_220 : decode cL_law 220 = .ok (.iaload, 1) := by decide +kernel
theorem dL_law_221 : decode cL_law 221 = .ok (.invokevirtual 31, 3) := by decide +kernel
theorem dL_law_224 : decode cL_law 224 = .ok (.aload_n 2, 1) := by decide +kernel
theorem dL_law_225 : decode cL_law 225 = .ok (.aload_n 0, 1) := by decide +kernel
theorem dL_law_226 : decode cL_law 226 = .ok (.iload_n 3, 1) := by decide +kernel
theorem dL_law_227 : decode cL_law 227 = .ok (.iconst 1, 1) := by decide +kernel
theorem dL_law_228 : decode cL_law 228 = .ok (.iadd, 1) := by decide +kernel
theorem dL_law_229 : decode cL_law 229 = .ok (.iaload, 1) := by decide +kernel
theorem dL_law_230 : decode cL_law 230 = .ok (.aload_n 0, 1) := by decide +kernel
theorem dL_law_231 : decode cL_law 231 = .ok (.iload_n 3, 1) := by decide +kernel
theorem dL_law_232 : decode cL_law 232 = .ok (.iconst 2, 1) := by decide +kernel
theorem dL_law_233 : decode cL_law 233 = .ok (.iadd, 1) := by decide +kernel
theorem dL_law_234 : decode cL_law 234 = .ok (.iaload, 1) := by decide +kernel
theorem dL_law_235 : decode cL_law 235 = .ok (.invokevirtual 35, 3) := by decide +kernel
theorem dL_law_238 : decode cL_law 238 = .ok (.if_icmp .eq 436, 3) := by decide +kernel
theorem dL_law_241 : decode cL_law 241 = .ok (.iconst 0, 1) := by decide +kernel
theorem dL_law_242 : decode cL_law 242 = .ok (.ireturn, 1) := by decide +kernel
theorem dL_law_243 : decode cL_law 243 = .ok (.aload_n 1, 1) := by decide +kernel
theorem dL_law_244 : decode cL_law 244 = .ok (.aload_n 0, 1) := by decide +kernel
theorem dL_law_245 : decode cL_law 245 = .ok (.iload_n 3, 1) := by decide +kernel
theorem dL_law_246 : decode cL_law 246 = .ok (.iconst 1, 1) := by decide +kernel
theorem dL_law_247 : decode cL_law 247 = .ok (.iadd, 1) := by decide +kernel
theorem dL_law_248 : decode cL_law 248 = .ok (.iaload, 1) := by decide +kernel
theorem dL_law_249 : decode cL_law 249 = .ok (.aload_n 0, 1) := by decide +kernel
theorem dL_law_250 : decode cL_law 250 = .ok (.iload_n 3, 1) := by decide +kernel
theorem dL_law_251 : decode cL_law 251 = .ok (.iconst 2, 1) := by decide +kernel
theorem dL_law_252 : decode cL_law 252 = .ok (.iadd, 1) := by decide +kernel
theorem dL_law_253 : decode cL_law 253 = .ok (.iaload, 1) := by decide +kernel
theorem dL_law_254 : decode cL_law 254 = .ok (.invokevirtual 36, 3) := by decide +kernel
theorem dL_law_257 : decode cL_law 257 = .ok (.aload_n 2, 1) := by decide +kernel
theorem dL_law_258 : decode cL_law 258 = .ok (.aload_n 0, 1) := by decide +kernel
theorem dL_law_259 : decode cL_law 259 = .ok (.iload_n 3, 1) := by decide +kernel
theorem dL_law_260 : decode cL_law 260 = .ok (.iconst 1, 1) := by decide +kernel
theorem dL_law_261 : decode cL_law 261 = .ok (.iadd, 1) := by decide +kernel
theorem dL_law_262 : decode cL_law 262 = .ok (.iaload, 1) := by decide +kernel
theorem dL_law_263 : decode cL_law 263 = .ok (.aload_n 0, 1) := by decide +kernel
theorem dL_law_264 : decode cL_law 264 = .ok (.iload_n 3, 1) := by decide +kernel
theorem dL_law_265 : decode cL_law 265 = .ok (.iconst 2, 1) := by decide +kernel
theorem dL_law_266 : decode cL_law 266 = .ok (.iadd, 1) := by decide +kernel
theorem dL_law_267 : decode cL_law 267 = .ok (.iaload, 1) := by decide +kernel
theorem dL_law_268 : decode cL_law 268 = .ok (.invokevirtual 39, 3) := by decide +kernel
theorem dL_law_271 : decode cL_law 271 = .ok (.if_icmp .eq 403, 3) := by decide +kernel
theorem dL_law_274 : decode cL_law 274 = .ok (.iconst 0, 1) := by decide +kernel
theorem dL_law_275 : decode cL_law 275 = .ok (.ireturn, 1) := by decide +kernel
theorem dL_law_276 : decode cL_law 276 = .ok (.aload_n 1, 1) := by decide +kernel
theorem dL_law_277 : decode cL_law 277 = .ok (.aload_n 0, 1) := by decide +kernel
theorem dL_law_278 : decode cL_law 278 = .ok (.iload_n 3, 1) := by decide +kernel
theorem dL_law_279 : decode cL_law 279 = .ok (.iconst 1, 1) := by decide +kernel
theorem dL_law_280 : decode cL_law 280 = .ok (.iadd, 1) := by decide +kernel
theorem dL_law_281 : decode cL_law 281 = .ok (.iaload, 1) := by decide +kernel
theorem dL_law_282 : decode cL_law 282 = .ok (.invokevirtual 40, 3) := by decide +kernel
theorem dL_law_285 : decode cL_law 285 = .ok (.aload_n 2, 1) := by decide +kernel
theorem dL_law_286 : decode cL_law 286 = .ok (.aload_n 0, 1) := by decide +kernel
theorem dL_law_287 : decode cL_law 287 = .ok (.iload_n 3, 1) := by decide +kernel
theorem dL_law_288 : decode cL_law 288 = .ok (.iconst 1, 1) := by decide +kernel
theorem dL_law_289 : decode cL_law 289 = .ok (.iadd, 1) := by decide +kernel
theorem dL_law_290 : decode cL_law 290 = .ok (.iaload, 1) := by decide +kernel
theorem dL_law_291 : decode cL_law 291 = .ok (.invokevirtual 43, 3) := by decide +kernel
theorem dL_law_294 : decode cL_law 294 = .ok (.if_icmp .eq 380, 3) := by decide +kernel
theorem dL_law_297 : decode cL_law 297 = .ok (.iconst 0, 1) := by decide +kernel
theorem dL_law_298 : decode cL_law 298 = .ok (.ireturn, 1) := by decide +kernel
theorem dL_law_299 : decode cL_law 299 = .ok (.aload_n 1, 1) := by decide +kernel
theorem dL_law_300 : decode cL_law 300 = .ok (.aload_n 0, 1) := by decide +kernel
theorem dL_law_301 : decode cL_law 301 = .ok (.iload_n 3, 1) := by decide +kernel
theorem dL_law_302 : decode cL_law 302 = .ok (.iconst 1, 1) := by decide +kernel
theorem dL_law_303 : decode cL_law 303 = .ok (.iadd, 1) := by decide +kernel
theorem dL_law_304 : decode cL_law 304 = .ok (.iaload, 1) := by decide +kernel
theorem dL_law_305 : decode cL_law 305 = .ok (.aload_n 0, 1) := by decide +kernel
theorem dL_law_306 : decode cL_law 306 = .ok (.iload_n 3, 1) := by decide +kernel
theorem dL_law_307 : decode cL_law 307 = .ok (.iconst 2, 1) := by decide +kernel
theorem dL_law_308 : decode cL_law 308 = .ok (.iadd, 1) := by decide +kernel
theorem dL_law_309 : decode cL_law 309 = .ok (.iaload, 1) := by decide +kernel
theorem dL_law_310 : decode cL_law 310 = .ok (.invokevirtual 44, 3) := by decide +kernel
theorem dL_law_313 : decode cL_law 313 = .ok (.aload_n 2, 1) := by decide +kernel
theorem dL_law_314 : decode cL_law 314 = .ok (.aload_n 0, 1) := by decide +kernel
theorem dL_law_315 : decode cL_law 315 = .ok (.iload_n 3, 1) := by decide +kernel
theorem dL_law_316 : decode cL_law 316 = .ok (.iconst 1, 1) := by decide +kernel
theorem dL_law_317 : decode cL_law 317 = .ok (.iadd, 1) := by decide +kernel
theorem dL_law_318 : decode cL_law 318 = .ok (.iaload, 1) := by decide +kernel
theorem dL_law_319 : decode cL_law 319 = .ok (.aload_n 0, 1) := by decide +kernel
theorem dL_law_320 : decode cL_law 320 = .ok (.iload_n 3, 1) := by decide +kernel
theorem dL_law_321 : decode cL_law 321 = .ok (.iconst 2, 1) := by decide +kernel
theorem dL_law_322 : decode cL_law 322 = .ok (.iadd, 1) := by decide +kernel
theorem dL_law_323 : decode cL_law 323 = .ok (.iaload, 1) := by decide +kernel
theorem dL_law_324 : decode cL_law 324 = .ok (.invokevirtual 47, 3) := by decide +kernel
theorem dL_law_327 : decode cL_law 327 = .ok (.if_icmp .eq 347, 3) := by decide +kernel
theorem dL_law_330 : decode cL_law 330 = .ok (.iconst 0, 1) := by decide +kernel
theorem dL_law_331 : decode cL_law 331 = .ok (.ireturn, 1) := by decide +kernel
theorem dL_law_332 : decode cL_law 332 = .ok (.aload_n 1, 1) := by decide +kernel
theorem dL_law_333 : decode cL_law 333 = .ok (.aload_n 0, 1) := by decide +kernel
theorem dL_law_334 : decode cL_law 334 = .ok (.iload_n 3, 1) := by decide +kernel
theorem dL_law_335 : decode cL_law 335 = .ok (.iconst 1, 1) := by decide +kernel
theorem dL_law_336 : decode cL_law 336 = .ok (.iadd, 1) := by decide +kernel
theorem dL_law_337 : decode cL_law 337 = .ok (.iaload, 1) := by decide +kernel
theorem dL_law_338 : decode cL_law 338 = .ok (.aload_n 0, 1) := by decide +kernel
theorem dL_law_339 : decode cL_law 339 = .ok (.iload_n 3, 1) := by decide +kernel
theorem dL_law_340 : decode cL_law 340 = .ok (.iconst 2, 1) := by decide +kernel
theorem dL_law_341 : decode cL_law 341 = .ok (.iadd, 1) := by decide +kernel
theorem dL_law_342 : decode cL_law 342 = .ok (.iaload, 1) := by decide +kernel
theorem dL_law_343 : decode cL_law 343 = .ok (.invokevirtual 48, 3) := by decide +kernel
theorem dL_law_346 : decode cL_law 346 = .ok (.aload_n 2, 1) := by decide +kernel
theorem dL_law_347 : decode cL_law 347 = .ok (.aload_n 0, 1) := by decide +kernel
theorem dL_law_348 : decode cL_law 348 = .ok (.iload_n 3, 1) := by decide +kernel
theorem dL_law_349 : decode cL_law 349 = .ok (.iconst 1, 1) := by decide +kernel
theorem dL_law_350 : decode cL_law 350 = .ok (.iadd, 1) := by decide +kernel
theorem dL_law_351 : decode cL_law 351 = .ok (.iaload, 1) := by decide +kernel
theorem dL_law_352 : decode cL_law 352 = .ok (.aload_n 0, 1) := by decide +kernel
theorem dL_law_353 : decode cL_law 353 = .ok (.iload_n 3, 1) := by decide +kernel
theorem dL_law_354 : decode cL_law 354 = .ok (.iconst 2, 1) := by decide +kernel
theorem dL_law_355 : decode cL_law 355 = .ok (.iadd, 1) := by decide +kernel
theorem dL_law_356 : decode cL_law 356 = .ok (.iaload, 1) := by decide +kernel
theorem dL_law_357 : decode cL_law 357 = .ok (.invokevirtual 51, 3) := by decide +kernel
theorem dL_law_360 : decode cL_law 360 = .ok (.if_icmp .eq 314, 3) := by decide +kernel
theorem dL_law_363 : decode cL_law 363 = .ok (.iconst 0, 1) := by decide +kernel
theorem dL_law_364 : decode cL_law 364 = .ok (.ireturn, 1) := by decide +kernel
theorem dL_law_365 : decode cL_law 365 = .ok (.aload_n 1, 1) := by decide +kernel
theorem dL_law_366 : decode cL_law 366 = .ok (.aload_n 0, 1) := by decide +kernel
theorem dL_law_367 : decode cL_law 367 = .ok (.iload_n 3, 1) := by decide +kernel
theorem dL_law_368 : decode cL_law 368 = .ok (.iconst 1, 1) := by decide +kernel
theorem dL_law_369 : decode cL_law 369 = .ok (.iadd, 1) := by decide +kernel
theorem dL_law_370 : decode cL_law 370 = .ok (.iaload, 1) := by decide +kernel
theorem dL_law_371 : decode cL_law 371 = .ok (.invokevirtual 52, 3) := by decide +kernel
theorem dL_law_374 : decode cL_law 374 = .ok (.aload_n 2, 1) := by decide +kernel
theorem dL_law_375 : decode cL_law 375 = .ok (.aload_n 0, 1) := by decide +kernel
theorem dL_law_376 : decode cL_law 376 = .ok (.iload_n 3, 1) := by decide +kernel
theorem dL_law_377 : decode cL_law 377 = .ok (.iconst 1, 1) := by decide +kernel
theorem dL_law_378 : decode cL_law 378 = .ok (.iadd, 1) := by decide +kernel
theorem dL_law_379 : decode cL_law 379 = .ok (.iaload, 1) := by decide +kernel
theorem dL_law_380 : decode cL_law 380 = .ok (.invokevirtual 55, 3) := by decide +kernel
theorem dL_law_383 : decode cL_law 383 = .ok (.if_icmp .eq 291, 3) := by decide +kernel
theorem dL_law_386 : decode cL_law 386 = .ok (.iconst 0, 1) := by decide +kernel
theorem dL_law_387 : decode cL_law 387 = .ok (.ireturn, 1) := by decide +kernel
theorem dL_law_388 : decode cL_law 388 = .ok (.aload_n 1, 1) := by decide +kernel
theorem dL_law_389 : decode cL_law 389 = .ok (.invokevirtual 56, 3) := by decide +kernel
theorem dL_law_392 : decode cL_law 392 = .ok (.aload_n 2, 1) := by decide +kernel
theorem dL_law_393 : decode cL_law 393 = .ok (.invokevirtual 59, 3) := by decide +kernel
theorem dL_law_396 : decode cL_law 396 = .ok (.if_icmp .eq 278, 3) := by decide +kernel
theorem dL_law_399 : decode cL_law 399 = .ok (.iconst 0, 1) := by decide +kernel
theorem dL_law_400 : decode cL_law 400 = .ok (.ireturn, 1) := by decide +kernel
theorem dL_law_401 : decode cL_law 401 = .ok (.aload_n 1, 1) := by decide +kernel
theorem dL_law_402 : decode cL_law 402 = .ok (.invokevirtual 60, 3) := by decide +kernel
theorem dL_law_405 : decode cL_law 405 = .ok (.aload_n 2, 1) := by decide +kernel
theorem dL_law_406 : decode cL_law 406 = .ok (.invokevirtual 63, 3) := by decide +kernel
theorem dL_law_409 : decode cL_law 409 = .ok (.if_icmp .eq 265, 3) := by decide +kernel
theorem dL_law_412 : decode cL_law 412 = .ok (.iconst 0, 1) := by decide +kernel
theorem dL_law_413 : decode cL_law 413 = .ok (.ireturn, 1) := by decide +kernel
theorem dL_law_414 : decode cL_law 414 = .ok (.aload_n 1, 1) := by decide +kernel
theorem dL_law_415 : decode cL_law 415 = .ok (.aload_n 0, 1) := by decide +kernel
theorem dL_law_416 : decode cL_law 416 = .ok (.iload_n 3, 1) := by decide +kernel
theorem dL_law_417 : decode cL_law 417 = .ok (.iconst 1, 1) := by decide +kernel
theorem dL_law_418 : decode cL_law 418 = .ok (.iadd, 1) := by decide +kernel
theorem dL_law_419 : decode cL_law 419 = .ok (.iaload, 1) := by decide +kernel
theorem dL_law_420 : decode cL_law 420 = .ok (.aload_n 0, 1) := by decide +kernel
theorem dL_law_421 : decode cL_law 421 = .ok (.iload_n 3, 1) := by decide +kernel
theorem dL_law_422 : decode cL_law 422 = .ok (.iconst 2, 1) := by decide +kernel
theorem dL_law_423 : decode cL_law 423 = .ok (.iadd, 1) := by decide +kernel
theorem dL_law_424 : decode cL_law 424 = .ok (.iaload, 1) := by decide +kernel
theorem dL_law_425 : decode cL_law 425 = .ok (.invokevirtual 64, 3) := by decide +kernel
theorem dL_law_428 : decode cL_law 428 = .ok (.aload_n 2, 1) := by decide +kernel
theorem dL_law_429 : decode cL_law 429 = .ok (.aload_n 0, 1) := by decide +kernel
theorem dL_law_430 : decode cL_law 430 = .ok (.iload_n 3, 1) := by decide +kernel
theorem dL_law_431 : decode cL_law 431 = .ok (.iconst 1, 1) := by decide +kernel
theorem dL_law_432 : decode cL_law 432 = .ok (.iadd, 1) := by decide +kernel
theorem dL_law_433 : decode cL_law 433 = .ok (.iaload, 1) := by decide +kernel
theorem dL_law_434 : decode cL_law 434 = .ok (.aload_n 0, 1) := by decide +kernel
theorem dL_law_435 : decode cL_law 435 = .ok (.iload_n 3, 1) := by decide +kernel
theorem dL_law_436 : decode cL_law 436 = .ok (.iconst 2, 1) := by decide +kernel
theorem dL_law_437 : decode cL_law 437 = .ok (.iadd, 1) := by decide +kernel
theorem dL_law_438 : decode cL_law 438 = .ok (.iaload, 1) := by decide +kernel
theorem dL_law_439 : decode cL_law 439 = .ok (.invokevirtual 67, 3) := by decide +kernel
theorem dL_law_442 : decode cL_law 442 = .ok (.if_icmp .eq 232, 3) := by decide +kernel
theorem dL_law_445 : decode cL_law 445 = .ok (.iconst 0, 1) := by decide +kernel
theorem dL_law_446 : decode cL_law 446 = .ok (.ireturn, 1) := by decide +kernel
theorem dL_law_447 : decode cL_law 447 = .ok (.aload_n 1, 1) := by decide +kernel
theorem dL_law_448 : decode cL_law 448 = .ok (.invokevirtual 68, 3) := by decide +kernel
theorem dL_law_451 : decode cL_law 451 = .ok (.aload_n 2, 1) := by decide +kernel
theorem dL_law_452 : decode cL_law 452 = .ok (.invokevirtual 71, 3) := by decide +kernel
theorem dL_law_455 : decode cL_law 455 = .ok (.if_icmp .eq 219, 3) := by decide +kernel
theorem dL_law_458 : decode cL_law 458 = .ok (.iconst 0, 1) := by decide +kernel
theorem dL_law_459 : decode cL_law 459 = .ok (.ireturn, 1) := by decide +kernel
theorem dL_law_460 : decode cL_law 460 = .ok (.aload_n 1, 1) := by decide +kernel
theorem dL_law_461 : decode cL_law 461 = .ok (.aload_n 0, 1) := by decide +kernel
theorem dL_law_462 : decode cL_law 462 = .ok (.iload_n 3, 1) := by decide +kernel
theorem dL_law_463 : decode cL_law 463 = .ok (.iconst 1, 1) := by decide +kernel
theorem dL_law_464 : decode cL_law 464 = .ok (.iadd, 1) := by decide +kernel
theorem dL_law_465 : decode cL_law 465 = .ok (.iaload, 1) := by decide +kernel
theorem dL_law_466 : decode cL_law 466 = .ok (.invokevirtual 72, 3) := by decide +kernel
theorem dL_law_469 : decode cL_law 469 = .ok (.aload_n 2, 1) := by decide +kernel
theorem dL_law_470 : decode cL_law 470 = .ok (.aload_n 0, 1) := by decide +kernel
theorem dL_law_471 : decode cL_law 471 = .ok (.iload_n 3, 1) := by decide +kernel
theorem dL_law_472 : decode cL_law 472 = .ok (.iconst 1, 1) := by decide +kernel
theorem dL_law_473 : decode cL_law 473 = .ok (.iadd, 1) := by decide +kernel
theorem dL_law_474 : decode cL_law 474 = .ok (.iaload, 1) := by decide +kernel
theorem dL_law_475 : decode cL_law 475 = .ok (.invokevirtual 75, 3) := by decide +kernel
theorem dL_law_478 : decode cL_law 478 = .ok (.if_icmp .eq 196, 3) := by decide +kernel
theorem dL_law_481 : decode cL_law 481 = .ok (.iconst 0, 1) := by decide +kernel
theorem dL_law_482 : decode cL_law 482 = .ok (.ireturn, 1) := by decide +kernel
theorem dL_law_483 : decode cL_law 483 = .ok (.aload_n 1, 1) := by decide +kernel
theorem dL_law_484 : decode cL_law 484 = .ok (.invokevirtual 76, 3) := by decide +kernel
theorem dL_law_487 : decode cL_law 487 = .ok (.aload_n 2, 1) := by decide +kernel
theorem dL_law_488 : decode cL_law 488 = .ok (.invokevirtual 79, 3) := by decide +kernel
theorem dL_law_491 : decode cL_law 491 = .ok (.if_icmp .eq 183, 3) := by decide +kernel
theorem dL_law_494 : decode cL_law 494 = .ok (.iconst 0, 1) := by decide +kernel
theorem dL_law_495 : decode cL_law 495 = .ok (.ireturn, 1) := by decide +kernel
theorem dL_law_496 : decode cL_law 496 = .ok (.aload_n 1, 1) := by decide +kernel
theorem dL_law_497 : decode cL_law 497 = .ok (.aload_n 0, 1) := by decide +kernel
theorem dL_law_498 : decode cL_law 498 = .ok (.iload_n 3, 1) := by decide +kernel
theorem dL_law_499 : decode cL_law 499 = .ok (.iconst 1, 1) := by decide +kernel
theorem dL_law_500 : decode cL_law 500 = .ok (.iadd, 1) := by decide +kernel
theorem dL_law_501 : decode cL_law 501 = .ok (.iaload, 1) := by decide +kernel
theorem dL_law_502 : decode cL_law 502 = .ok (.aload_n 0, 1) := by decide +kernel
theorem dL_law_503 : decode cL_law 503 = .ok (.iload_n 3, 1) := by decide +kernel
theorem dL_law_504 : decode cL_law 504 = .ok (.iconst 2, 1) := by decide +kernel
theorem dL_law_505 : decode cL_law 505 = .ok (.iadd, 1) := by decide +kernel
theorem dL_law_506 : decode cL_law 506 = .ok (.iaload, 1) := by decide +kernel
theorem dL_law_507 : decode cL_law 507 = .ok (.invokevirtual 80, 3) := by decide +kernel
theorem dL_law_510 : decode cL_law 510 = .ok (.aload_n 2, 1) := by decide +kernel
theorem dL_law_511 : decode cL_law 511 = .ok (.aload_n 0, 1) := by decide +kernel
theorem dL_law_512 : decode cL_law 512 = .ok (.iload_n 3, 1) := by decide +kernel
theorem dL_law_513 : decode cL_law 513 = .ok (.iconst 1, 1) := by decide +kernel
theorem dL_law_514 : decode cL_law 514 = .ok (.iadd, 1) := by decide +kernel
theorem dL_law_515 : decode cL_law 515 = .ok (.iaload, 1) := by decide +kernel
theorem dL_law_516 : decode cL_law 516 = .ok (.aload_n 0, 1) := by decide +kernel
theorem dL_law_517 : decode cL_law 517 = .ok (.iload_n 3, 1) := by decide +kernel
theorem dL_law_518 : decode cL_law 518 = .ok (.iconst 2, 1) := by decide +kernel
theorem dL_law_519 : decode cL_law 519 = .ok (.iadd, 1) := by decide +kernel
theorem dL_law_520 : decode cL_law 520 = .ok (.iaload, 1) := by decide +kernel
theorem dL_law_521 : decode cL_law 521 = .ok (.invokevirtual 83, 3) := by decide +kernel
theorem dL_law_524 : decode cL_law 524 = .ok (.if_icmp .eq 150, 3) := by decide +kernel
theorem dL_law_527 : decode cL_law 527 = .ok (.iconst 0, 1) := by decide +kernel
theorem dL_law_528 : decode cL_law 528 = .ok (.ireturn, 1) := by decide +kernel
theorem dL_law_529 : decode cL_law 529 = .ok (.aload_n 1, 1) := by decide +kernel
theorem dL_law_530 : decode cL_law 530 = .ok (.invokevirtual 84, 3) := by decide +kernel
theorem dL_law_533 : decode cL_law 533 = .ok (.aload_n 2, 1) := by decide +kernel
theorem dL_law_534 : decode cL_law 534 = .ok (.invokevirtual 87, 3) := by decide +kernel
theorem dL_law_537 : decode cL_law 537 = .ok (.if_icmp .eq 137, 3) := by decide +kernel
theorem dL_law_540 : decode cL_law 540 = .ok (.iconst 0, 1) := by decide +kernel
theorem dL_law_541 : decode cL_law 541 = .ok (.ireturn, 1) := by decide +kernel
theorem dL_law_542 : decode cL_law 542 = .ok (.aload_n 1, 1) := by decide +kernel
theorem dL_law_543 : decode cL_law 543 = .ok (.invokevirtual 88, 3) := by decide +kernel
theorem dL_law_546 : decode cL_law 546 = .ok (.aload_n 2, 1) := by decide +kernel
theorem dL_law_547 : decode cL_law 547 = .ok (.invokevirtual 91, 3) := by decide +kernel
theorem dL_law_550 : decode cL_law 550 = .ok (.if_icmp .eq 124, 3) := by decide +kernel
theorem dL_law_553 : decode cL_law 553 = .ok (.iconst 0, 1) := by decide +kernel
theorem dL_law_554 : decode cL_law 554 = .ok (.ireturn, 1) := by decide +kernel
theorem dL_law_555 : decode cL_law 555 = .ok (.aload_n 1, 1) := by decide +kernel
theorem dL_law_556 : decode cL_law 556 = .ok (.invokevirtual 92, 3) := by decide +kernel
theorem dL_law_559 : decode cL_law 559 = .ok (.aload_n 2, 1) := by decide +kernel
theorem dL_law_560 : decode cL_law 560 = .ok (.invokevirtual 95, 3) := by decide +kernel
theorem dL_law_563 : decode cL_law 563 = .ok (.if_icmp .eq 111, 3) := by decide +kernel
theorem dL_law_566 : decode cL_law 566 = .ok (.iconst 0, 1) := by decide +kernel
theorem dL_law_567 : decode cL_law 567 = .ok (.ireturn, 1) := by decide +kernel
theorem dL_law_568 : decode cL_law 568 = .ok (.aload_n 1, 1) := by decide +kernel
theorem dL_law_569 : decode cL_law 569 = .ok (.aload_n 0, 1) := by decide +kernel
theorem dL_law_570 : decode cL_law 570 = .ok (.iload_n 3, 1) := by decide +kernel
theorem dL_law_571 : decode cL_law 571 = .ok (.iconst 1, 1) := by decide +kernel
theorem dL_law_572 : decode cL_law 572 = .ok (.iadd, 1) := by decide +kernel
theorem dL_law_573 : decode cL_law 573 = .ok (.iaload, 1) := by decide +kernel
theorem dL_law_574 : decode cL_law 574 = .ok (.aload_n 0, 1) := by decide +kernel
theorem dL_law_575 : decode cL_law 575 = .ok (.iload_n 3, 1) := by decide +kernel
theorem dL_law_576 : decode cL_law 576 = .ok (.iconst 2, 1) := by decide +kernel
theorem dL_law_577 : decode cL_law 577 = .ok (.iadd, 1) := by decide +kernel
theorem dL_law_578 : decode cL_law 578 = .ok (.iaload, 1) := by decide +kernel
theorem dL_law_579 : decode cL_law 579 = .ok (.aload_n 0, 1) := by decide +kernel
theorem dL_law_580 : decode cL_law 580 = .ok (.iload_n 3, 1) := by decide +kernel
theorem dL_law_581 : decode cL_law 581 = .ok (.iconst 3, 1) := by decide +kernel
theorem dL_law_582 : decode cL_law 582 = .ok (.iadd, 1) := by decide +kernel
theorem dL_law_583 : decode cL_law 583 = .ok (.iaload, 1) := by decide +kernel
theorem dL_law_584 : decode cL_law 584 = .ok (.invokevirtual 96, 3) := by decide +kernel
theorem dL_law_587 : decode cL_law 587 = .ok (.aload_n 2, 1) := by decide +kernel
theorem dL_law_588 : decode cL_law 588 = .ok (.aload_n 0, 1) := by decide +kernel
theorem dL_law_589 : decode cL_law 589 = .ok (.iload_n 3, 1) := by decide +kernel
theorem dL_law_590 : decode cL_law 590 = .ok (.iconst 1, 1) := by decide +kernel
theorem dL_law_591 : decode cL_law 591 = .ok (.iadd, 1) := by decide +kernel
theorem dL_law_592 : decode cL_law 592 = .ok (.iaload, 1) := by decide +kernel
theorem dL_law_593 : decode cL_law 593 = .ok (.aload_n 0, 1) := by decide +kernel
theorem dL_law_594 : decode cL_law 594 = .ok (.iload_n 3, 1) := by decide +kernel
theorem dL_law_595 : decode cL_law 595 = .ok (.iconst 2, 1) := by decide +kernel
theorem dL_law_596 : decode cL_law 596 = .ok (.iadd, 1) := by decide +kernel
theorem dL_law_597 : decode cL_law 597 = .ok (.iaload, 1) := by decide +kernel
theorem dL_law_598 : decode cL_law 598 = .ok (.aload_n 0, 1) := by decide +kernel
theorem dL_law_599 : decode cL_law 599 = .ok (.iload_n 3, 1) := by decide +kernel
theorem dL_law_600 : decode cL_law 600 = .ok (.iconst 3, 1) := by decide +kernel
theorem dL_law_601 : decode cL_law 601 = .ok (.iadd, 1) := by decide +kernel
theorem dL_law_602 : decode cL_law 602 = .ok (.iaload, 1) := by decide +kernel
theorem dL_law_603 : decode cL_law 603 = .ok (.invokevirtual 100, 3) := by decide +kernel
theorem dL_law_606 : decode cL_law 606 = .ok (.if_icmp .eq 68, 3) := by decide +kernel
theorem dL_law_609 : decode cL_law 609 = .ok (.iconst 0, 1) := by decide +kernel
theorem dL_law_610 : decode cL_law 610 = .ok (.ireturn, 1) := by decide +kernel
theorem dL_law_611 : decode cL_law 611 = .ok (.aload_n 1, 1) := by decide +kernel
theorem dL_law_612 : decode cL_law 612 = .ok (.invokevirtual 101, 3) := by decide +kernel
theorem dL_law_615 : decode cL_law 615 = .ok (.aload_n 2, 1) := by decide +kernel
theorem dL_law_616 : decode cL_law 616 = .ok (.invokevirtual 104, 3) := by decide +kernel
theorem dL_law_619 : decode cL_law 619 = .ok (.if_icmp .eq 55, 3) := by decide +kernel
theorem dL_law_622 : decode cL_law 622 = .ok (.iconst 0, 1) := by decide +kernel
theorem dL_law_623 : decode cL_law 623 = .ok (.ireturn, 1) := by decide +kernel
theorem dL_law_624 : decode cL_law 624 = .ok (.aload_n 1, 1) := by decide +kernel
theorem dL_law_625 : decode cL_law 625 = .ok (.invokevirtual 105, 3) := by decide +kernel
theorem dL_law_628 : decode cL_law 628 = .ok (.aload_n 2, 1) := by decide +kernel
theorem dL_law_629 : decode cL_law 629 = .ok (.invokevirtual 108, 3) := by decide +kernel
theorem dL_law_632 : decode cL_law 632 = .ok (.if_icmp .eq 42, 3) := by decide +kernel
theorem dL_law_635 : decode cL_law 635 = .ok (.iconst 0, 1) := by decide +kernel
theorem dL_law_636 : decode cL_law 636 = .ok (.ireturn, 1) := by decide +kernel
theorem dL_law_637 : decode cL_law 637 = .ok (.aload_n 1, 1) := by decide +kernel
theorem dL_law_638 : decode cL_law 638 = .ok (.aload_n 0, 1) := by decide +kernel
theorem dL_law_639 : decode cL_law 639 = .ok (.iload_n 3, 1) := by decide +kernel
theorem dL_law_640 : decode cL_law 640 = .ok (.iconst 1, 1) := by decide +kernel
theorem dL_law_641 : decode cL_law 641 = .ok (.iadd, 1) := by decide +kernel
theorem dL_law_642 : decode cL_law 642 = .ok (.iaload, 1) := by decide +kernel
theorem dL_law_643 : decode cL_law 643 = .ok (.invokevirtual 109, 3) := by decide +kernel
theorem dL_law_646 : decode cL_law 646 = .ok (.aload_n 2, 1) := by decide +kernel
theorem dL_law_647 : decode cL_law 647 = .ok (.aload_n 0, 1) := by decide +kernel
theorem dL_law_648 : decode cL_law 648 = .ok (.iload_n 3, 1) := by decide +kernel
theorem dL_law_649 : decode cL_law 649 = .ok (.iconst 1, 1) := by decide +kernel
theorem dL_law_650 : decode cL_law 650 = .ok (.iadd, 1) := by decide +kernel
theorem dL_law_651 : decode cL_law 651 = .ok (.iaload, 1) := by decide +kernel
theorem dL_law_652 : decode cL_law 652 = .ok (.invokevirtual 112, 3) := by decide +kernel
theorem dL_law_655 : decode cL_law 655 = .ok (.if_icmp .eq 19, 3) := by decide +kernel
theorem dL_law_658 : decode cL_law 658 = .ok (.iconst 0, 1) := by decide +kernel
theorem dL_law_659 : decode cL_law 659 = .ok (.ireturn, 1) := by decide +kernel
theorem dL_law_660 : decode cL_law 660 = .ok (.aload_n 1, 1) := by decide +kernel
theorem dL_law_661 : decode cL_law 661 = .ok (.invokevirtual 113, 3) := by decide +kernel
theorem dL_law_664 : decode cL_law 664 = .ok (.aload_n 2, 1) := by decide +kernel
theorem dL_law_665 : decode cL_law 665 = .ok (.invokevirtual 117, 3) := by decide +kernel
theorem dL_law_668 : decode cL_law 668 = .ok (.lcmp, 1) := by decide +kernel
theorem dL_law_669 : decode cL_law 669 = .ok (.ifCond .eq 5, 3) := by decide +kernel
theorem dL_law_672 : decode cL_law 672 = .ok (.iconst 0, 1) := by decide +kernel
theorem dL_law_673 : decode cL_law 673 = .ok (.ireturn, 1) := by decide +kernel
theorem dL_law_674 : decode cL_law 674 = .ok (.iinc 3 4, 3) := by decide +kernel
theorem dL_law_677 : decode cL_law 677 = .ok (.goto (-659), 3) := by decide +kernel
theorem dL_law_680 : decode cL_law 680 = .ok (.iconst 1, 1) := by decide +kernel
theorem dL_law_681 : decode cL_law 681 = .ok (.ireturn, 1) := by decide +kernel
abbrev vwCl : List vw_C := [(RX0, TX0, 0), (RX1, TX1, 0), (RX2, TX2, 5), (RX3, TX3, 0), (RX4, TX4, 2), (RX5, TX5, 6), (RX6, TX6, 0), (RX7, TX7, 0), (RX8, TX8, 5), (RX9, TX9, 3), (RX10, TX10, 5), (RX11, TX11, 8), (RX12, TX12, 38)]
end
section
theorem zz_last : True := trivial
end
