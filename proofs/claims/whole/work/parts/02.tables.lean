/-- my own machine over a world that stands: values, memory, locals, an instruction (place, length, instruction, number, two operands, targets with the locals that live there) -/
abbrev AV : Type := Int32 ⊕ Nat
abbrev AM : Type := Nat → Nat → Int32
abbrev AL : Type := List (Option AV)
abbrev AOp : Type := Nat × Nat × Instr × Int32 × Nat × Nat × List (Nat × List Bool)
abbrev ASh : Type := (Nat × Nat) ⊕ (Nat × List (Option Nat))
/-- the world: what stands at each of its places: 0 bench; 1 people; 2 people.from; 3 people.to; 4 formulas; 5 formulas.from; 6 formulas.to; 7 seals; 8 seals.from; 9 seals.to; 10 deeds; 11 deeds.from; 12 deeds.to; 13 marks; 14 marks.sets; 15 timeline; 16 timeline.first; 17 timeline.last; 18 timeline.near; 19 timeline.named; 20 timeline.least; 21 timeline.greatest; 22 timeline.latest; 23 timeline.before; 24 timeline.cause; 25 search; 26 search.weights; 27 writing; 28 writing.tape; 29 writing.letters; 30 writing.sizes; 31 bench.house; 32 bench.parcels; 33 bench.verdict; 34 model; 35 model.tape; 36 model.lifeFrom; 37 model.lifeTo; 38 model.formulaFrom; 39 model.formulaTo; 40 model.sealFrom; 41 model.sealTo; 42 model.from; 43 model.to; 44 model.weight; 45 model.marks; 46 model.kind; 47 model.which; 48 model.letters; 49 model.words; 50 model.house; 51 model.parcels; 52 model.court; 53 model.low; 54 model.high; 55 model.isHand; 56 model.isNaming; 57 model.least; 58 model.most; 59 model.isGood -/
def shp : List ASh := [.inr (5, [some 1, some 4, some 7, some 10, some 13, some 15, some 25, some 27, some 31, some 32, some 33, none, none]), .inr (2, [some 2, some 3, none]), .inl (0, 20), .inl (0, 20), .inr (2, [some 5, some 6, none]), .inl (0, 10), .inl (0, 10), .inr (2, [some 8, some 9, none]), .inl (0, 8), .inl (0, 8), .inr (2, [some 11, some 12, none]), .inl (0, 12), .inl (0, 12), .inr (0, [some 14]), .inl (0, 60), .inr (3, [some 16, some 17, some 18, some 19, some 20, some 21, some 22, some 23, some 24, none, none]), .inl (0, 12), .inl (0, 12), .inl (0, 12), .inl (0, 12), .inl (0, 12), .inl (0, 12), .inl (0, 12), .inl (0, 12), .inl (0, 12), .inr (1, [some 15, some 26, none, none]), .inl (0, 12), .inr (4, [some 28, some 29, some 30, none, none, none, none, none]), .inl (0, 40), .inl (0, 240), .inl (0, 12), .inl (0, 12), .inl (0, 12), .inl (0, 12), .inr (6, [some 35, none, none, none, none, none, none, some 36, some 37, some 38, some 39, some 40, some 41, some 42, some 43, some 44, some 45, some 46, some 47, some 48, some 49, some 50, some 51, some 52, some 53, some 54, some 55, some 56, some 57, some 58, none, some 59, none, none]), .inl (1, 40), .inl (0, 20), .inl (0, 20), .inl (0, 10), .inl (0, 10), .inl (0, 8), .inl (0, 8), .inl (0, 12), .inl (0, 12), .inl (0, 12), .inl (0, 12), .inl (0, 96), .inl (0, 96), .inl (0, 12), .inl (1, 240), .inl (0, 12), .inl (0, 12), .inl (0, 12), .inl (0, 12), .inl (0, 12), .inl (2, 144), .inl (2, 144), .inl (0, 12), .inl (0, 12), .inl (2, 4096)]
def shF : Nat → Option ASh
  | 0 => some (.inr (5, [some 1, some 4, some 7, some 10, some 13, some 15, some 25, some 27, some 31, some 32, some 33, none, none]))
  | 1 => some (.inr (2, [some 2, some 3, none]))
  | 2 => some (.inl (0, 20))
  | 3 => some (.inl (0, 20))
  | 4 => some (.inr (2, [some 5, some 6, none]))
  | 5 => some (.inl (0, 10))
  | 6 => some (.inl (0, 10))
  | 7 => some (.inr (2, [some 8, some 9, none]))
  | 8 => some (.inl (0, 8))
  | 9 => some (.inl (0, 8))
  | 10 => some (.inr (2, [some 11, some 12, none]))
  | 11 => some (.inl (0, 12))
  | 12 => some (.inl (0, 12))
  | 13 => some (.inr (0, [some 14]))
  | 14 => some (.inl (0, 60))
  | 15 => some (.inr (3, [some 16, some 17, some 18, some 19, some 20, some 21, some 22, some 23, some 24, none, none]))
  | 16 => some (.inl (0, 12))
  | 17 => some (.inl (0, 12))
  | 18 => some (.inl (0, 12))
  | 19 => some (.inl (0, 12))
  | 20 => some (.inl (0, 12))
  | 21 => some (.inl (0, 12))
  | 22 => some (.inl (0, 12))
  | 23 => some (.inl (0, 12))
  | 24 => some (.inl (0, 12))
  | 25 => some (.inr (1, [some 15, some 26, none, none]))
  | 26 => some (.inl (0, 12))
  | 27 => some (.inr (4, [some 28, some 29, some 30, none, none, none, none, none]))
  | 28 => some (.inl (0, 40))
  | 29 => some (.inl (0, 240))
  | 30 => some (.inl (0, 12))
  | 31 => some (.inl (0, 12))
  | 32 => some (.inl (0, 12))
  | 33 => some (.inl (0, 12))
  | 34 => some (.inr (6, [some 35, none, none, none, none, none, none, some 36, some 37, some 38, some 39, some 40, some 41, some 42, some 43, some 44, some 45, some 46, some 47, some 48, some 49, some 50, some 51, some 52, some 53, some 54, some 55, some 56, some 57, some 58, none, some 59, none, none]))
  | 35 => some (.inl (1, 40))
  | 36 => some (.inl (0, 20))
  | 37 => some (.inl (0, 20))
  | 38 => some (.inl (0, 10))
  | 39 => some (.inl (0, 10))
  | 40 => some (.inl (0, 8))
  | 41 => some (.inl (0, 8))
  | 42 => some (.inl (0, 12))
  | 43 => some (.inl (0, 12))
  | 44 => some (.inl (0, 12))
  | 45 => some (.inl (0, 12))
  | 46 => some (.inl (0, 96))
  | 47 => some (.inl (0, 96))
  | 48 => some (.inl (0, 12))
  | 49 => some (.inl (1, 240))
  | 50 => some (.inl (0, 12))
  | 51 => some (.inl (0, 12))
  | 52 => some (.inl (0, 12))
  | 53 => some (.inl (0, 12))
  | 54 => some (.inl (0, 12))
  | 55 => some (.inl (2, 144))
  | 56 => some (.inl (2, 144))
  | 57 => some (.inl (0, 12))
  | 58 => some (.inl (0, 12))
  | 59 => some (.inl (2, 4096))
  | _ => none
theorem sh0 : shF 0 = some (.inr (5, [some 1, some 4, some 7, some 10, some 13, some 15, some 25, some 27, some 31, some 32, some 33, none, none])) := rfl
theorem sh1 : shF 1 = some (.inr (2, [some 2, some 3, none])) := rfl
theorem sh2 : shF 2 = some (.inl (0, 20)) := rfl
theorem sh3 : shF 3 = some (.inl (0, 20)) := rfl
theorem sh4 : shF 4 = some (.inr (2, [some 5, some 6, none])) := rfl
theorem sh5 : shF 5 = some (.inl (0, 10)) := rfl
theorem sh6 : shF 6 = some (.inl (0, 10)) := rfl
theorem sh7 : shF 7 = some (.inr (2, [some 8, some 9, none])) := rfl
theorem sh8 : shF 8 = some (.inl (0, 8)) := rfl
theorem sh9 : shF 9 = some (.inl (0, 8)) := rfl
theorem sh10 : shF 10 = some (.inr (2, [some 11, some 12, none])) := rfl
theorem sh11 : shF 11 = some (.inl (0, 12)) := rfl
theorem sh12 : shF 12 = some (.inl (0, 12)) := rfl
theorem sh13 : shF 13 = some (.inr (0, [some 14])) := rfl
theorem sh14 : shF 14 = some (.inl (0, 60)) := rfl
theorem sh15 : shF 15 = some (.inr (3, [some 16, some 17, some 18, some 19, some 20, some 21, some 22, some 23, some 24, none, none])) := rfl
theorem sh16 : shF 16 = some (.inl (0, 12)) := rfl
theorem sh17 : shF 17 = some (.inl (0, 12)) := rfl
theorem sh18 : shF 18 = some (.inl (0, 12)) := rfl
theorem sh19 : shF 19 = some (.inl (0, 12)) := rfl
theorem sh20 : shF 20 = some (.inl (0, 12)) := rfl
theorem sh21 : shF 21 = some (.inl (0, 12)) := rfl
theorem sh22 : shF 22 = some (.inl (0, 12)) := rfl
theorem sh23 : shF 23 = some (.inl (0, 12)) := rfl
theorem sh24 : shF 24 = some (.inl (0, 12)) := rfl
theorem sh25 : shF 25 = some (.inr (1, [some 15, some 26, none, none])) := rfl
theorem sh26 : shF 26 = some (.inl (0, 12)) := rfl
theorem sh27 : shF 27 = some (.inr (4, [some 28, some 29, some 30, none, none, none, none, none])) := rfl
theorem sh28 : shF 28 = some (.inl (0, 40)) := rfl
theorem sh29 : shF 29 = some (.inl (0, 240)) := rfl
theorem sh30 : shF 30 = some (.inl (0, 12)) := rfl
theorem sh31 : shF 31 = some (.inl (0, 12)) := rfl
theorem sh32 : shF 32 = some (.inl (0, 12)) := rfl
theorem sh33 : shF 33 = some (.inl (0, 12)) := rfl
theorem sh34 : shF 34 = some (.inr (6, [some 35, none, none, none, none, none, none, some 36, some 37, some 38, some 39, some 40, some 41, some 42, some 43, some 44, some 45, some 46, some 47, some 48, some 49, some 50, some 51, some 52, some 53, some 54, some 55, some 56, some 57, some 58, none, some 59, none, none])) := rfl
theorem sh35 : shF 35 = some (.inl (1, 40)) := rfl
theorem sh36 : shF 36 = some (.inl (0, 20)) := rfl
theorem sh37 : shF 37 = some (.inl (0, 20)) := rfl
theorem sh38 : shF 38 = some (.inl (0, 10)) := rfl
theorem sh39 : shF 39 = some (.inl (0, 10)) := rfl
theorem sh40 : shF 40 = some (.inl (0, 8)) := rfl
theorem sh41 : shF 41 = some (.inl (0, 8)) := rfl
theorem sh42 : shF 42 = some (.inl (0, 12)) := rfl
theorem sh43 : shF 43 = some (.inl (0, 12)) := rfl
theorem sh44 : shF 44 = some (.inl (0, 12)) := rfl
theorem sh45 : shF 45 = some (.inl (0, 12)) := rfl
theorem sh46 : shF 46 = some (.inl (0, 96)) := rfl
theorem sh47 : shF 47 = some (.inl (0, 96)) := rfl
theorem sh48 : shF 48 = some (.inl (0, 12)) := rfl
theorem sh49 : shF 49 = some (.inl (1, 240)) := rfl
theorem sh50 : shF 50 = some (.inl (0, 12)) := rfl
theorem sh51 : shF 51 = some (.inl (0, 12)) := rfl
theorem sh52 : shF 52 = some (.inl (0, 12)) := rfl
theorem sh53 : shF 53 = some (.inl (0, 12)) := rfl
theorem sh54 : shF 54 = some (.inl (0, 12)) := rfl
theorem sh55 : shF 55 = some (.inl (2, 144)) := rfl
theorem sh56 : shF 56 = some (.inl (2, 144)) := rfl
theorem sh57 : shF 57 = some (.inl (0, 12)) := rfl
theorem sh58 : shF 58 = some (.inl (0, 12)) := rfl
theorem sh59 : shF 59 = some (.inl (2, 4096)) := rfl
theorem shF_eq : ∀ r : Nat, shF r = shp[r]?
  | 0 => rfl
  | 1 => rfl
  | 2 => rfl
  | 3 => rfl
  | 4 => rfl
  | 5 => rfl
  | 6 => rfl
  | 7 => rfl
  | 8 => rfl
  | 9 => rfl
  | 10 => rfl
  | 11 => rfl
  | 12 => rfl
  | 13 => rfl
  | 14 => rfl
  | 15 => rfl
  | 16 => rfl
  | 17 => rfl
  | 18 => rfl
  | 19 => rfl
  | 20 => rfl
  | 21 => rfl
  | 22 => rfl
  | 23 => rfl
  | 24 => rfl
  | 25 => rfl
  | 26 => rfl
  | 27 => rfl
  | 28 => rfl
  | 29 => rfl
  | 30 => rfl
  | 31 => rfl
  | 32 => rfl
  | 33 => rfl
  | 34 => rfl
  | 35 => rfl
  | 36 => rfl
  | 37 => rfl
  | 38 => rfl
  | 39 => rfl
  | 40 => rfl
  | 41 => rfl
  | 42 => rfl
  | 43 => rfl
  | 44 => rfl
  | 45 => rfl
  | 46 => rfl
  | 47 => rfl
  | 48 => rfl
  | 49 => rfl
  | 50 => rfl
  | 51 => rfl
  | 52 => rfl
  | 53 => rfl
  | 54 => rfl
  | 55 => rfl
  | 56 => rfl
  | 57 => rfl
  | 58 => rfl
  | 59 => rfl
  | _ + 60 => rfl
def bX0_isPlace_0 : List AOp := [(0, 1, .iload_n 0, 0, 0, 0, []), (1, 3, .ifCond .lt 22, 0, 0, 0, [(23,[false,false]), (4,[true,true])])]
def bX0_isPlace_4 : List AOp := [(4, 1, .iload_n 0, 0, 0, 0, []), (5, 2, .bipush 12, 12, 0, 0, []), (7, 3, .if_icmp .ge 16, 0, 0, 0, [(23,[false,false]), (10,[false,true])])]
def bX0_isPlace_10 : List AOp := [(10, 1, .iload_n 1, 0, 1, 0, []), (11, 3, .ifCond .lt 12, 0, 0, 0, [(23,[false,false]), (14,[false,true])])]
def bX0_isPlace_14 : List AOp := [(14, 1, .iload_n 1, 0, 1, 0, []), (15, 1, .iconst 5, 5, 0, 0, []), (16, 3, .if_icmp .ge 7, 0, 0, 0, [(23,[false,false]), (19,[false,false])])]
def bX0_isPlace_19 : List AOp := [(19, 1, .iconst 1, 1, 0, 0, []), (20, 3, .goto 4, 0, 0, 0, [(24,[false,false])])]
def bX0_isPlace_23 : List AOp := [(23, 1, .iconst 0, 0, 0, 0, []), (24, 0, .nop, 0, 0, 0, [(24,[false,false])])]
def bX0_isPlace_24 : List AOp := [(24, 1, .ireturn, 0, 0, 0, [])]
def blX0_isPlace : List (Nat × List AOp) := [(0, bX0_isPlace_0), (4, bX0_isPlace_4), (10, bX0_isPlace_10), (14, bX0_isPlace_14), (19, bX0_isPlace_19), (23, bX0_isPlace_23), (24, bX0_isPlace_24)]
def bX0_of_0 : List AOp := [(0, 1, .iload_n 1, 0, 1, 0, []), (1, 1, .iload_n 2, 0, 2, 0, []), (2, 3, .invokestatic 15, 0, 0, 2, []), (5, 3, .ifCond .eq 17, 0, 0, 0, [(22,[false,false,false]), (8,[true,true,true])])]
def bX0_of_8 : List AOp := [(8, 1, .aload_n 0, 0, 0, 0, []), (9, 3, .getfield 9, 0, 0, 0, []), (12, 1, .iload_n 2, 0, 2, 0, []), (13, 2, .bipush 12, 12, 0, 0, []), (15, 1, .imul, 0, 0, 0, []), (16, 1, .iload_n 1, 0, 1, 0, []), (17, 1, .iadd, 0, 0, 0, []), (18, 1, .iaload, 0, 0, 0, []), (19, 3, .goto 4, 0, 0, 0, [(23,[false,false,false])])]
def bX0_of_22 : List AOp := [(22, 1, .iconst 0, 0, 0, 0, []), (23, 0, .nop, 0, 0, 0, [(23,[false,false,false])])]
def bX0_of_23 : List AOp := [(23, 1, .ireturn, 0, 0, 0, [])]
def blX0_of : List (Nat × List AOp) := [(0, bX0_of_0), (8, bX0_of_8), (22, bX0_of_22), (23, bX0_of_23)]
def bX0_many_0 : List AOp := [(0, 1, .iconst 0, 0, 0, 0, []), (1, 1, .istore_n 2, 0, 2, 0, []), (2, 1, .iconst 0, 0, 0, 0, []), (3, 1, .istore_n 3, 0, 3, 0, []), (4, 0, .nop, 0, 0, 0, [(4,[true,true,true,true])])]
def bX0_many_4 : List AOp := [(4, 1, .iload_n 3, 0, 3, 0, []), (5, 1, .iconst 5, 5, 0, 0, []), (6, 3, .if_icmp .ge 21, 0, 0, 0, [(27,[false,false,true,false]), (9,[true,true,true,true])])]
def bX0_many_9 : List AOp := [(9, 1, .iload_n 2, 0, 2, 0, []), (10, 1, .aload_n 0, 0, 0, 0, []), (11, 1, .iload_n 1, 0, 1, 0, []), (12, 1, .iload_n 3, 0, 3, 0, []), (13, 3, .invokevirtual 19, 0, 1, 3, [(0,[])]), (16, 3, .invokestatic 23, 0, 104, 1, []), (19, 1, .iadd, 0, 0, 0, []), (20, 1, .istore_n 2, 0, 2, 0, []), (21, 3, .iinc 3 1, 1, 3, 0, []), (24, 3, .goto (-20), 0, 0, 0, [(4,[true,true,true,true])])]
def bX0_many_27 : List AOp := [(27, 1, .iload_n 2, 0, 2, 0, []), (28, 1, .ireturn, 0, 0, 0, [])]
def blX0_many : List (Nat × List AOp) := [(0, bX0_many_0), (4, bX0_many_4), (9, bX0_many_9), (27, bX0_many_27)]
def bX0_put_0 : List AOp := [(0, 1, .iload_n 1, 0, 1, 0, []), (1, 1, .iload_n 2, 0, 2, 0, []), (2, 3, .invokestatic 15, 0, 0, 2, []), (5, 3, .ifCond .eq 26, 0, 0, 0, [(31,[false,false,false,false]), (8,[true,true,true,true])])]
def bX0_put_8 : List AOp := [(8, 1, .aload_n 0, 0, 0, 0, []), (9, 1, .iload_n 1, 0, 1, 0, []), (10, 1, .iload_n 2, 0, 2, 0, []), (11, 3, .invokevirtual 19, 0, 1, 3, [(0,[])]), (14, 1, .iload_n 3, 0, 3, 0, []), (15, 3, .invokestatic 29, 0, 49, 2, []), (18, 3, .ifCond .ne 13, 0, 0, 0, [(31,[false,false,false,false]), (21,[true,true,true,true])])]
def bX0_put_21 : List AOp := [(21, 1, .aload_n 0, 0, 0, 0, []), (22, 1, .iload_n 1, 0, 1, 0, []), (23, 3, .invokevirtual 32, 0, 2, 2, [(0,[])]), (26, 2, .bipush 8, 8, 0, 0, []), (28, 3, .if_icmp .lt 5, 0, 0, 0, [(33,[true,true,true,true]), (31,[false,false,false,false])])]
def bX0_put_31 : List AOp := [(31, 1, .iconst 0, 0, 0, 0, []), (32, 1, .ireturn, 0, 0, 0, [])]
def bX0_put_33 : List AOp := [(33, 1, .aload_n 0, 0, 0, 0, []), (34, 3, .getfield 9, 0, 0, 0, []), (37, 1, .iload_n 2, 0, 2, 0, []), (38, 2, .bipush 12, 12, 0, 0, []), (40, 1, .imul, 0, 0, 0, []), (41, 1, .iload_n 1, 0, 1, 0, []), (42, 1, .iadd, 0, 0, 0, []), (43, 1, .dup2, 0, 0, 0, []), (44, 1, .iaload, 0, 0, 0, []), (45, 1, .iconst 1, 1, 0, 0, []), (46, 1, .iload_n 3, 0, 3, 0, []), (47, 1, .ishl, 0, 0, 0, []), (48, 1, .ior, 0, 0, 0, []), (49, 1, .iastore, 0, 0, 0, []), (50, 1, .iconst 1, 1, 0, 0, []), (51, 1, .ireturn, 0, 0, 0, [])]
def blX0_put : List (Nat × List AOp) := [(0, bX0_put_0), (8, bX0_put_8), (21, bX0_put_21), (31, bX0_put_31), (33, bX0_put_33)]
def bX0_sharingHand_0 : List AOp := [(0, 1, .iconst 0, 0, 0, 0, []), (1, 1, .istore_n 2, 0, 2, 0, []), (2, 1, .iconst 0, 0, 0, 0, []), (3, 1, .istore_n 3, 0, 3, 0, []), (4, 0, .nop, 0, 0, 0, [(4,[true,true,true,true])])]
def bX0_sharingHand_4 : List AOp := [(4, 1, .iload_n 3, 0, 3, 0, []), (5, 2, .bipush 12, 12, 0, 0, []), (7, 3, .if_icmp .ge 36, 0, 0, 0, [(43,[false,false,true,false]), (10,[true,true,true,true])])]
def bX0_sharingHand_10 : List AOp := [(10, 1, .iload_n 3, 0, 3, 0, []), (11, 1, .iload_n 1, 0, 1, 0, []), (12, 3, .if_icmp .eq 25, 0, 0, 0, [(37,[true,true,true,true]), (15,[true,true,true,true])])]
def bX0_sharingHand_15 : List AOp := [(15, 1, .aload_n 0, 0, 0, 0, []), (16, 1, .iload_n 1, 0, 1, 0, []), (17, 1, .iconst 3, 3, 0, 0, []), (18, 3, .invokevirtual 19, 0, 1, 3, [(0,[])]), (21, 1, .aload_n 0, 0, 0, 0, []), (22, 1, .iload_n 3, 0, 3, 0, []), (23, 1, .iconst 3, 3, 0, 0, []), (24, 3, .invokevirtual 19, 0, 1, 3, [(0,[])]), (27, 1, .iand, 0, 0, 0, []), (28, 3, .ifCond .eq 9, 0, 0, 0, [(37,[true,true,true,true]), (31,[true,true,true,true])])]
def bX0_sharingHand_31 : List AOp := [(31, 1, .iload_n 2, 0, 2, 0, []), (32, 1, .iconst 1, 1, 0, 0, []), (33, 1, .iload_n 3, 0, 3, 0, []), (34, 1, .ishl, 0, 0, 0, []), (35, 1, .ior, 0, 0, 0, []), (36, 1, .istore_n 2, 0, 2, 0, []), (37, 0, .nop, 0, 0, 0, [(37,[true,true,true,true])])]
def bX0_sharingHand_37 : List AOp := [(37, 3, .iinc 3 1, 1, 3, 0, []), (40, 3, .goto (-36), 0, 0, 0, [(4,[true,true,true,true])])]
def bX0_sharingHand_43 : List AOp := [(43, 1, .iload_n 2, 0, 2, 0, []), (44, 1, .ireturn, 0, 0, 0, [])]
def blX0_sharingHand : List (Nat × List AOp) := [(0, bX0_sharingHand_0), (4, bX0_sharingHand_4), (10, bX0_sharingHand_10), (15, bX0_sharingHand_15), (31, bX0_sharingHand_31), (37, bX0_sharingHand_37), (43, bX0_sharingHand_43)]
def bX1_lightest_0 : List AOp := [(0, 1, .aload_n 0, 0, 0, 0, []), (1, 1, .iload_n 1, 0, 1, 0, []), (2, 3, .putfield 19, 0, 1, 2, []), (5, 1, .aload_n 0, 0, 0, 0, []), (6, 1, .aload_n 0, 0, 0, 0, []), (7, 1, .iload_n 1, 0, 1, 0, []), (8, 3, .invokevirtual 26, 0, 6, 2, [(1,[])]), (11, 3, .putfield 23, 0, 1, 3, []), (14, 1, .aload_n 0, 0, 0, 0, []), (15, 1, .iload_n 1, 0, 1, 0, []), (16, 1, .iconst 0, 0, 0, 0, []), (17, 1, .iconst 0, 0, 0, 0, []), (18, 1, .iconst 0, 0, 0, 0, []), (19, 3, .invokestatic 30, 0, 7, 5, []), (22, 1, .aload_n 0, 0, 0, 0, []), (23, 3, .getfield 19, 0, 1, 2, []), (26, 1, .ireturn, 0, 0, 0, [])]
def blX1_lightest : List (Nat × List AOp) := [(0, bX1_lightest_0)]
def bX1_weigh_0 : List AOp := [(0, 1, .iconst 0, 0, 0, 0, []), (1, 1, .istore_n 2, 0, 2, 0, []), (2, 1, .iconst 0, 0, 0, 0, []), (3, 1, .istore_n 3, 0, 3, 0, []), (4, 0, .nop, 0, 0, 0, [(4,[true,true,true,true])])]
def bX1_weigh_4 : List AOp := [(4, 1, .iload_n 3, 0, 3, 0, []), (5, 2, .bipush 12, 12, 0, 0, []), (7, 3, .if_icmp .ge 26, 0, 0, 0, [(33,[false,false,true,false]), (10,[true,true,true,true])])]
def bX1_weigh_10 : List AOp := [(10, 1, .iload_n 1, 0, 1, 0, []), (11, 1, .iload_n 3, 0, 3, 0, []), (12, 3, .invokestatic 34, 0, 49, 2, []), (15, 3, .ifCond .eq 12, 0, 0, 0, [(27,[true,true,true,true]), (18,[true,true,true,true])])]
def bX1_weigh_18 : List AOp := [(18, 1, .iload_n 2, 0, 2, 0, []), (19, 1, .aload_n 0, 0, 0, 0, []), (20, 3, .getfield 9, 0, 1, 1, []), (23, 1, .iload_n 3, 0, 3, 0, []), (24, 1, .iaload, 0, 0, 0, []), (25, 1, .iadd, 0, 0, 0, []), (26, 1, .istore_n 2, 0, 2, 0, []), (27, 0, .nop, 0, 0, 0, [(27,[true,true,true,true])])]
def bX1_weigh_27 : List AOp := [(27, 3, .iinc 3 1, 1, 3, 0, []), (30, 3, .goto (-26), 0, 0, 0, [(4,[true,true,true,true])])]
def bX1_weigh_33 : List AOp := [(33, 1, .iload_n 2, 0, 2, 0, []), (34, 1, .ireturn, 0, 0, 0, [])]
def blX1_weigh : List (Nat × List AOp) := [(0, bX1_weigh_0), (4, bX1_weigh_4), (10, bX1_weigh_10), (18, bX1_weigh_18), (27, bX1_weigh_27), (33, bX1_weigh_33)]
def bX1_forge_0 : List AOp := [(0, 2, .iload 4, 0, 4, 0, []), (2, 2, .bipush 12, 12, 0, 0, []), (4, 3, .if_icmp .gt 15, 0, 0, 0, [(19,[false,false,false,false,false,false,false,false,false]), (7,[true,true,true,true,true,false,false,false,false])])]
def bX1_forge_7 : List AOp := [(7, 1, .aload_n 0, 0, 0, 0, []), (8, 1, .iload_n 2, 0, 2, 0, []), (9, 3, .invokevirtual 26, 0, 6, 2, [(1,[])]), (12, 1, .aload_n 0, 0, 0, 0, []), (13, 3, .getfield 23, 0, 1, 3, []), (16, 3, .if_icmp .le 4, 0, 0, 0, [(20,[true,true,true,true,true,false,false,false,false]), (19,[false,false,false,false,false,false,false,false,false])])]
def bX1_forge_19 : List AOp := [(19, 1, .return_, 0, 0, 0, [])]
def bX1_forge_20 : List AOp := [(20, 1, .aload_n 0, 0, 0, 0, []), (21, 3, .getfield 15, 0, 1, 0, []), (24, 1, .iload_n 1, 0, 1, 0, []), (25, 3, .invokevirtual 38, 0, 19, 2, [(3,[])]), (28, 2, .istore 5, 0, 5, 0, []), (30, 2, .iload 5, 0, 5, 0, []), (32, 3, .ifCond .ne 9, 0, 0, 0, [(41,[true,true,true,true,true,true,false,false,false]), (35,[true,false,true,false,false,false,false,false,false])])]
def bX1_forge_35 : List AOp := [(35, 1, .aload_n 0, 0, 0, 0, []), (36, 1, .iload_n 2, 0, 2, 0, []), (37, 3, .invokevirtual 43, 0, 8, 2, [(1,[])]), (40, 1, .return_, 0, 0, 0, [])]
def bX1_forge_41 : List AOp := [(41, 1, .iload_n 3, 0, 3, 0, []), (42, 2, .istore 6, 0, 6, 0, []), (44, 1, .iconst 0, 0, 0, 0, []), (45, 2, .istore 7, 0, 7, 0, []), (47, 0, .nop, 0, 0, 0, [(47,[true,true,true,false,true,true,true,true,false])])]
def bX1_forge_47 : List AOp := [(47, 2, .iload 7, 0, 7, 0, []), (49, 2, .bipush 12, 12, 0, 0, []), (51, 3, .if_icmp .ge 55, 0, 0, 0, [(106,[false,false,false,false,false,false,false,false,false]), (54,[true,true,true,false,true,true,true,true,false])])]
def bX1_forge_54 : List AOp := [(54, 1, .iconst 1, 1, 0, 0, []), (55, 2, .iload 7, 0, 7, 0, []), (57, 1, .ishl, 0, 0, 0, []), (58, 2, .istore 8, 0, 8, 0, []), (60, 2, .iload 5, 0, 5, 0, []), (62, 2, .iload 6, 0, 6, 0, []), (64, 1, .iconst (-1), (-1), 0, 0, []), (65, 1, .ixor, 0, 0, 0, []), (66, 1, .iand, 0, 0, 0, []), (67, 2, .iload 8, 0, 8, 0, []), (69, 1, .iand, 0, 0, 0, []), (70, 3, .ifCond .eq 30, 0, 0, 0, [(100,[true,true,true,false,true,true,true,true,false]), (73,[true,true,true,false,true,true,true,true,true])])]
def bX1_forge_73 : List AOp := [(73, 1, .aload_n 0, 0, 0, 0, []), (74, 1, .iload_n 1, 0, 1, 0, []), (75, 2, .iload 8, 0, 8, 0, []), (77, 1, .iconst (-1), (-1), 0, 0, []), (78, 1, .ixor, 0, 0, 0, []), (79, 1, .iand, 0, 0, 0, []), (80, 1, .iload_n 2, 0, 2, 0, []), (81, 2, .iload 8, 0, 8, 0, []), (83, 1, .ior, 0, 0, 0, []), (84, 2, .iload 6, 0, 6, 0, []), (86, 2, .iload 4, 0, 4, 0, []), (88, 1, .iconst 1, 1, 0, 0, []), (89, 1, .iadd, 0, 0, 0, []), (90, 3, .invokestatic 30, 0, 7, 5, []), (93, 2, .iload 6, 0, 6, 0, []), (95, 2, .iload 8, 0, 8, 0, []), (97, 1, .ior, 0, 0, 0, []), (98, 2, .istore 6, 0, 6, 0, []), (100, 0, .nop, 0, 0, 0, [(100,[true,true,true,false,true,true,true,true,false])])]
def bX1_forge_100 : List AOp := [(100, 3, .iinc 7 1, 1, 7, 0, []), (103, 3, .goto (-56), 0, 0, 0, [(47,[true,true,true,false,true,true,true,true,false])])]
def bX1_forge_106 : List AOp := [(106, 1, .return_, 0, 0, 0, [])]
def blX1_forge : List (Nat × List AOp) := [(0, bX1_forge_0), (7, bX1_forge_7), (19, bX1_forge_19), (20, bX1_forge_20), (35, bX1_forge_35), (41, bX1_forge_41), (47, bX1_forge_47), (54, bX1_forge_54), (73, bX1_forge_73), (100, bX1_forge_100), (106, bX1_forge_106)]
def bX1_keepBetter_0 : List AOp := [(0, 1, .aload_n 0, 0, 0, 0, []), (1, 1, .iload_n 1, 0, 1, 0, []), (2, 3, .invokevirtual 26, 0, 6, 2, [(1,[])]), (5, 1, .aload_n 0, 0, 0, 0, []), (6, 3, .getfield 23, 0, 1, 3, []), (9, 3, .invokestatic 47, 0, 103, 2, []), (12, 1, .istore_n 2, 0, 2, 0, []), (13, 1, .iload_n 2, 0, 2, 0, []), (14, 3, .ifCond .ne 18, 0, 0, 0, [(32,[true,true,true]), (17,[true,true,false])])]
def bX1_keepBetter_17 : List AOp := [(17, 1, .iload_n 1, 0, 1, 0, []), (18, 3, .invokestatic 53, 0, 104, 1, []), (21, 1, .aload_n 0, 0, 0, 0, []), (22, 3, .getfield 19, 0, 1, 2, []), (25, 3, .invokestatic 53, 0, 104, 1, []), (28, 3, .invokestatic 47, 0, 103, 2, []), (31, 1, .istore_n 2, 0, 2, 0, []), (32, 0, .nop, 0, 0, 0, [(32,[true,true,true])])]
def bX1_keepBetter_32 : List AOp := [(32, 1, .iload_n 2, 0, 2, 0, []), (33, 3, .ifCond .lt 15, 0, 0, 0, [(48,[true,true,false]), (36,[true,true,true])])]
def bX1_keepBetter_36 : List AOp := [(36, 1, .iload_n 2, 0, 2, 0, []), (37, 3, .ifCond .ne 25, 0, 0, 0, [(62,[false,false,false]), (40,[true,true,false])])]
def bX1_keepBetter_40 : List AOp := [(40, 1, .iload_n 1, 0, 1, 0, []), (41, 1, .aload_n 0, 0, 0, 0, []), (42, 3, .getfield 19, 0, 1, 2, []), (45, 3, .if_icmp .ge 17, 0, 0, 0, [(62,[false,false,false]), (48,[true,true,false])])]
def bX1_keepBetter_48 : List AOp := [(48, 1, .aload_n 0, 0, 0, 0, []), (49, 1, .iload_n 1, 0, 1, 0, []), (50, 3, .putfield 19, 0, 1, 2, []), (53, 1, .aload_n 0, 0, 0, 0, []), (54, 1, .aload_n 0, 0, 0, 0, []), (55, 1, .iload_n 1, 0, 1, 0, []), (56, 3, .invokevirtual 26, 0, 6, 2, [(1,[])]), (59, 3, .putfield 23, 0, 1, 3, []), (62, 0, .nop, 0, 0, 0, [(62,[false,false,false])])]
def bX1_keepBetter_62 : List AOp := [(62, 1, .return_, 0, 0, 0, [])]
def blX1_keepBetter : List (Nat × List AOp) := [(0, bX1_keepBetter_0), (17, bX1_keepBetter_17), (32, bX1_keepBetter_32), (36, bX1_keepBetter_36), (40, bX1_keepBetter_40), (48, bX1_keepBetter_48), (62, bX1_keepBetter_62)]
def bX2_areYears_0 : List AOp := [(0, 1, .iload_n 0, 0, 0, 0, []), (1, 3, .ifCond .lt 19, 0, 0, 0, [(20,[false,false]), (4,[true,true])])]
def bX2_areYears_4 : List AOp := [(4, 1, .iload_n 0, 0, 0, 0, []), (5, 1, .iload_n 1, 0, 1, 0, []), (6, 3, .if_icmp .gt 14, 0, 0, 0, [(20,[false,false]), (9,[false,true])])]
def bX2_areYears_9 : List AOp := [(9, 1, .iload_n 1, 0, 1, 0, []), (10, 3, .sipush 3000, 3000, 0, 0, []), (13, 3, .if_icmp .gt 7, 0, 0, 0, [(20,[false,false]), (16,[false,false])])]
def bX2_areYears_16 : List AOp := [(16, 1, .iconst 1, 1, 0, 0, []), (17, 3, .goto 4, 0, 0, 0, [(21,[false,false])])]
def bX2_areYears_20 : List AOp := [(20, 1, .iconst 0, 0, 0, 0, []), (21, 0, .nop, 0, 0, 0, [(21,[false,false])])]
def bX2_areYears_21 : List AOp := [(21, 1, .ireturn, 0, 0, 0, [])]
def blX2_areYears : List (Nat × List AOp) := [(0, bX2_areYears_0), (4, bX2_areYears_4), (9, bX2_areYears_9), (16, bX2_areYears_16), (20, bX2_areYears_20), (21, bX2_areYears_21)]
def bX2_has_0 : List AOp := [(0, 1, .iload_n 1, 0, 1, 0, []), (1, 3, .ifCond .lt 33, 0, 0, 0, [(34,[false,false]), (4,[true,true])])]
def bX2_has_4 : List AOp := [(4, 1, .iload_n 1, 0, 1, 0, []), (5, 1, .aload_n 0, 0, 0, 0, []), (6, 3, .getfield 24, 0, 2, 2, []), (9, 3, .if_icmp .ge 25, 0, 0, 0, [(34,[false,false]), (12,[true,true])])]
def bX2_has_12 : List AOp := [(12, 1, .iload_n 1, 0, 1, 0, []), (13, 1, .aload_n 0, 0, 0, 0, []), (14, 3, .getfield 15, 0, 2, 0, []), (17, 1, .arraylength, 0, 0, 0, []), (18, 3, .if_icmp .ge 16, 0, 0, 0, [(34,[false,false]), (21,[true,true])])]
def bX2_has_21 : List AOp := [(21, 1, .iload_n 1, 0, 1, 0, []), (22, 1, .aload_n 0, 0, 0, 0, []), (23, 3, .getfield 21, 0, 2, 1, []), (26, 1, .arraylength, 0, 0, 0, []), (27, 3, .if_icmp .ge 7, 0, 0, 0, [(34,[false,false]), (30,[false,false])])]
def bX2_has_30 : List AOp := [(30, 1, .iconst 1, 1, 0, 0, []), (31, 3, .goto 4, 0, 0, 0, [(35,[false,false])])]
def bX2_has_34 : List AOp := [(34, 1, .iconst 0, 0, 0, 0, []), (35, 0, .nop, 0, 0, 0, [(35,[false,false])])]
def bX2_has_35 : List AOp := [(35, 1, .ireturn, 0, 0, 0, [])]
def blX2_has : List (Nat × List AOp) := [(0, bX2_has_0), (4, bX2_has_4), (12, bX2_has_12), (21, bX2_has_21), (30, bX2_has_30), (34, bX2_has_34), (35, bX2_has_35)]
def bX2_add_0 : List AOp := [(0, 1, .iload_n 1, 0, 1, 0, []), (1, 1, .iload_n 2, 0, 2, 0, []), (2, 3, .invokestatic 28, 0, 9, 2, []), (5, 3, .ifCond .eq 15, 0, 0, 0, [(20,[false,false,false]), (8,[true,true,true])])]
def bX2_add_8 : List AOp := [(8, 1, .aload_n 0, 0, 0, 0, []), (9, 3, .getfield 24, 0, 2, 2, []), (12, 1, .aload_n 0, 0, 0, 0, []), (13, 3, .getfield 15, 0, 2, 0, []), (16, 1, .arraylength, 0, 0, 0, []), (17, 3, .if_icmp .lt 5, 0, 0, 0, [(22,[true,true,true]), (20,[false,false,false])])]
def bX2_add_20 : List AOp := [(20, 1, .iconst (-1), (-1), 0, 0, []), (21, 1, .ireturn, 0, 0, 0, [])]
def bX2_add_22 : List AOp := [(22, 1, .aload_n 0, 0, 0, 0, []), (23, 1, .dup, 0, 0, 0, []), (24, 3, .getfield 24, 0, 2, 2, []), (27, 1, .iconst 1, 1, 0, 0, []), (28, 1, .iadd, 0, 0, 0, []), (29, 3, .putfield 24, 0, 2, 2, []), (32, 1, .aload_n 0, 0, 0, 0, []), (33, 1, .aload_n 0, 0, 0, 0, []), (34, 3, .getfield 24, 0, 2, 2, []), (37, 1, .iconst 1, 1, 0, 0, []), (38, 1, .isub, 0, 0, 0, []), (39, 1, .iload_n 1, 0, 1, 0, []), (40, 1, .iload_n 2, 0, 2, 0, []), (41, 3, .invokevirtual 32, 0, 12, 4, [(2,[])]), (44, 1, .pop, 0, 0, 0, []), (45, 1, .aload_n 0, 0, 0, 0, []), (46, 3, .getfield 24, 0, 2, 2, []), (49, 1, .iconst 1, 1, 0, 0, []), (50, 1, .isub, 0, 0, 0, []), (51, 1, .ireturn, 0, 0, 0, [])]
def blX2_add : List (Nat × List AOp) := [(0, bX2_add_0), (8, bX2_add_8), (20, bX2_add_20), (22, bX2_add_22)]
def bX2_change_0 : List AOp := [(0, 1, .aload_n 0, 0, 0, 0, []), (1, 1, .iload_n 1, 0, 1, 0, []), (2, 3, .invokevirtual 36, 0, 10, 2, [(2,[])]), (5, 3, .ifCond .eq 11, 0, 0, 0, [(16,[false,false,false,false]), (8,[true,true,true,true])])]
def bX2_change_8 : List AOp := [(8, 1, .iload_n 2, 0, 2, 0, []), (9, 1, .iload_n 3, 0, 3, 0, []), (10, 3, .invokestatic 28, 0, 9, 2, []), (13, 3, .ifCond .ne 5, 0, 0, 0, [(18,[true,true,true,true]), (16,[false,false,false,false])])]
def bX2_change_16 : List AOp := [(16, 1, .iconst 0, 0, 0, 0, []), (17, 1, .ireturn, 0, 0, 0, [])]
def bX2_change_18 : List AOp := [(18, 1, .aload_n 0, 0, 0, 0, []), (19, 3, .getfield 15, 0, 2, 0, []), (22, 1, .iload_n 1, 0, 1, 0, []), (23, 1, .iload_n 2, 0, 2, 0, []), (24, 1, .iastore, 0, 0, 0, []), (25, 1, .aload_n 0, 0, 0, 0, []), (26, 3, .getfield 21, 0, 2, 1, []), (29, 1, .iload_n 1, 0, 1, 0, []), (30, 1, .iload_n 3, 0, 3, 0, []), (31, 1, .iastore, 0, 0, 0, []), (32, 1, .iconst 1, 1, 0, 0, []), (33, 1, .ireturn, 0, 0, 0, [])]
def blX2_change : List (Nat × List AOp) := [(0, bX2_change_0), (8, bX2_change_8), (16, bX2_change_16), (18, bX2_change_18)]
def bX2_latestStart_0 : List AOp := [(0, 1, .iload_n 2, 0, 2, 0, []), (1, 1, .istore_n 3, 0, 3, 0, []), (2, 1, .iconst 0, 0, 0, 0, []), (3, 2, .istore 4, 0, 4, 0, []), (5, 0, .nop, 0, 0, 0, [(5,[true,true,false,true,true])])]
def bX2_latestStart_5 : List AOp := [(5, 2, .iload 4, 0, 4, 0, []), (7, 1, .aload_n 0, 0, 0, 0, []), (8, 3, .getfield 15, 0, 2, 0, []), (11, 1, .arraylength, 0, 0, 0, []), (12, 3, .if_icmp .ge 30, 0, 0, 0, [(42,[false,false,false,true,false]), (15,[true,true,false,true,true])])]
def bX2_latestStart_15 : List AOp := [(15, 1, .iload_n 1, 0, 1, 0, []), (16, 2, .iload 4, 0, 4, 0, []), (18, 3, .invokestatic 40, 0, 49, 2, []), (21, 3, .ifCond .eq 15, 0, 0, 0, [(36,[true,true,false,true,true]), (24,[true,true,false,true,true])])]
def bX2_latestStart_24 : List AOp := [(24, 1, .iload_n 3, 0, 3, 0, []), (25, 1, .aload_n 0, 0, 0, 0, []), (26, 3, .getfield 15, 0, 2, 0, []), (29, 2, .iload 4, 0, 4, 0, []), (31, 1, .iaload, 0, 0, 0, []), (32, 3, .invokestatic 9, 0, 0, 0, [(1,[])]), (35, 1, .istore_n 3, 0, 3, 0, []), (36, 0, .nop, 0, 0, 0, [(36,[true,true,false,true,true])])]
def bX2_latestStart_36 : List AOp := [(36, 3, .iinc 4 1, 1, 4, 0, []), (39, 3, .goto (-34), 0, 0, 0, [(5,[true,true,false,true,true])])]
def bX2_latestStart_42 : List AOp := [(42, 1, .iload_n 3, 0, 3, 0, []), (43, 1, .ireturn, 0, 0, 0, [])]
def blX2_latestStart : List (Nat × List AOp) := [(0, bX2_latestStart_0), (5, bX2_latestStart_5), (15, bX2_latestStart_15), (24, bX2_latestStart_24), (36, bX2_latestStart_36), (42, bX2_latestStart_42)]
def bX2_earliestEnd_0 : List AOp := [(0, 1, .iload_n 2, 0, 2, 0, []), (1, 1, .istore_n 3, 0, 3, 0, []), (2, 1, .iconst 0, 0, 0, 0, []), (3, 2, .istore 4, 0, 4, 0, []), (5, 0, .nop, 0, 0, 0, [(5,[true,true,false,true,true])])]
def bX2_earliestEnd_5 : List AOp := [(5, 2, .iload 4, 0, 4, 0, []), (7, 1, .aload_n 0, 0, 0, 0, []), (8, 3, .getfield 21, 0, 2, 1, []), (11, 1, .arraylength, 0, 0, 0, []), (12, 3, .if_icmp .ge 30, 0, 0, 0, [(42,[false,false,false,true,false]), (15,[true,true,false,true,true])])]
def bX2_earliestEnd_15 : List AOp := [(15, 1, .iload_n 1, 0, 1, 0, []), (16, 2, .iload 4, 0, 4, 0, []), (18, 3, .invokestatic 40, 0, 49, 2, []), (21, 3, .ifCond .eq 15, 0, 0, 0, [(36,[true,true,false,true,true]), (24,[true,true,false,true,true])])]
def bX2_earliestEnd_24 : List AOp := [(24, 1, .iload_n 3, 0, 3, 0, []), (25, 1, .aload_n 0, 0, 0, 0, []), (26, 3, .getfield 21, 0, 2, 1, []), (29, 2, .iload 4, 0, 4, 0, []), (31, 1, .iaload, 0, 0, 0, []), (32, 3, .invokestatic 43, 0, 0, 0, [(2,[])]), (35, 1, .istore_n 3, 0, 3, 0, []), (36, 0, .nop, 0, 0, 0, [(36,[true,true,false,true,true])])]
def bX2_earliestEnd_36 : List AOp := [(36, 3, .iinc 4 1, 1, 4, 0, []), (39, 3, .goto (-34), 0, 0, 0, [(5,[true,true,false,true,true])])]
def bX2_earliestEnd_42 : List AOp := [(42, 1, .iload_n 3, 0, 3, 0, []), (43, 1, .ireturn, 0, 0, 0, [])]
def blX2_earliestEnd : List (Nat × List AOp) := [(0, bX2_earliestEnd_0), (5, bX2_earliestEnd_5), (15, bX2_earliestEnd_15), (24, bX2_earliestEnd_24), (36, bX2_earliestEnd_36), (42, bX2_earliestEnd_42)]
def bX3_roundsToBreak_0 : List AOp := [(0, 1, .iconst 0, 0, 0, 0, []), (1, 1, .istore_n 2, 0, 2, 0, []), (2, 0, .nop, 0, 0, 0, [(2,[true,true,true])])]
def bX3_roundsToBreak_2 : List AOp := [(2, 1, .iload_n 2, 0, 2, 0, []), (3, 2, .bipush 12, 12, 0, 0, []), (5, 3, .if_icmp .ge 28, 0, 0, 0, [(33,[true,true,false]), (8,[true,true,true])])]
def bX3_roundsToBreak_8 : List AOp := [(8, 1, .aload_n 0, 0, 0, 0, []), (9, 3, .getfield 30, 0, 3, 6, []), (12, 1, .iload_n 2, 0, 2, 0, []), (13, 1, .aload_n 0, 0, 0, 0, []), (14, 3, .getfield 15, 0, 3, 1, []), (17, 1, .iload_n 2, 0, 2, 0, []), (18, 1, .iaload, 0, 0, 0, []), (19, 1, .iastore, 0, 0, 0, []), (20, 1, .aload_n 0, 0, 0, 0, []), (21, 3, .getfield 36, 0, 3, 8, []), (24, 1, .iload_n 2, 0, 2, 0, []), (25, 1, .iconst (-1), (-1), 0, 0, []), (26, 1, .iastore, 0, 0, 0, []), (27, 3, .iinc 2 1, 1, 2, 0, []), (30, 3, .goto (-28), 0, 0, 0, [(2,[true,true,true])])]
def bX3_roundsToBreak_33 : List AOp := [(33, 1, .iconst 0, 0, 0, 0, []), (34, 1, .istore_n 2, 0, 2, 0, []), (35, 0, .nop, 0, 0, 0, [(35,[true,true,true])])]
def bX3_roundsToBreak_35 : List AOp := [(35, 1, .iload_n 2, 0, 2, 0, []), (36, 2, .bipush 12, 12, 0, 0, []), (38, 3, .if_icmp .gt 38, 0, 0, 0, [(76,[false,false,false]), (41,[true,true,true])])]
def bX3_roundsToBreak_41 : List AOp := [(41, 1, .aload_n 0, 0, 0, 0, []), (42, 1, .aload_n 0, 0, 0, 0, []), (43, 1, .iload_n 1, 0, 1, 0, []), (44, 3, .invokevirtual 46, 0, 16, 2, [(3,[])]), (47, 3, .putfield 43, 0, 3, 10, []), (50, 1, .aload_n 0, 0, 0, 0, []), (51, 3, .getfield 43, 0, 3, 10, []), (54, 1, .iconst (-1), (-1), 0, 0, []), (55, 3, .if_icmp .eq 5, 0, 0, 0, [(60,[true,true,true]), (58,[false,false,true])])]
def bX3_roundsToBreak_58 : List AOp := [(58, 1, .iload_n 2, 0, 2, 0, []), (59, 1, .ireturn, 0, 0, 0, [])]
def bX3_roundsToBreak_60 : List AOp := [(60, 1, .aload_n 0, 0, 0, 0, []), (61, 1, .iload_n 1, 0, 1, 0, []), (62, 3, .invokevirtual 50, 0, 17, 2, [(3,[])]), (65, 3, .ifCond .ne 5, 0, 0, 0, [(70,[true,true,true]), (68,[false,false,false])])]
def bX3_roundsToBreak_68 : List AOp := [(68, 1, .iconst (-1), (-1), 0, 0, []), (69, 1, .ireturn, 0, 0, 0, [])]
def bX3_roundsToBreak_70 : List AOp := [(70, 3, .iinc 2 1, 1, 2, 0, []), (73, 3, .goto (-38), 0, 0, 0, [(35,[true,true,true])])]
def bX3_roundsToBreak_76 : List AOp := [(76, 1, .iconst (-1), (-1), 0, 0, []), (77, 1, .ireturn, 0, 0, 0, [])]
def blX3_roundsToBreak : List (Nat × List AOp) := [(0, bX3_roundsToBreak_0), (2, bX3_roundsToBreak_2), (8, bX3_roundsToBreak_8), (33, bX3_roundsToBreak_33), (35, bX3_roundsToBreak_35), (41, bX3_roundsToBreak_41), (58, bX3_roundsToBreak_58), (60, bX3_roundsToBreak_60), (68, bX3_roundsToBreak_68), (70, bX3_roundsToBreak_70), (76, bX3_roundsToBreak_76)]
def bX3_firstBroken_0 : List AOp := [(0, 1, .iconst 0, 0, 0, 0, []), (1, 1, .istore_n 2, 0, 2, 0, []), (2, 0, .nop, 0, 0, 0, [(2,[true,true,true])])]
def bX3_firstBroken_2 : List AOp := [(2, 1, .iload_n 2, 0, 2, 0, []), (3, 2, .bipush 12, 12, 0, 0, []), (5, 3, .if_icmp .ge 34, 0, 0, 0, [(39,[false,false,false]), (8,[true,true,true])])]
def bX3_firstBroken_8 : List AOp := [(8, 1, .iload_n 1, 0, 1, 0, []), (9, 1, .iload_n 2, 0, 2, 0, []), (10, 3, .invokestatic 54, 0, 49, 2, []), (13, 3, .ifCond .eq 20, 0, 0, 0, [(33,[true,true,true]), (16,[true,true,true])])]
def bX3_firstBroken_16 : List AOp := [(16, 1, .aload_n 0, 0, 0, 0, []), (17, 3, .getfield 30, 0, 3, 6, []), (20, 1, .iload_n 2, 0, 2, 0, []), (21, 1, .iaload, 0, 0, 0, []), (22, 1, .aload_n 0, 0, 0, 0, []), (23, 3, .getfield 9, 0, 3, 0, []), (26, 1, .iload_n 2, 0, 2, 0, []), (27, 1, .iaload, 0, 0, 0, []), (28, 3, .if_icmp .ge 5, 0, 0, 0, [(33,[true,true,true]), (31,[false,false,true])])]
def bX3_firstBroken_31 : List AOp := [(31, 1, .iload_n 2, 0, 2, 0, []), (32, 1, .ireturn, 0, 0, 0, [])]
def bX3_firstBroken_33 : List AOp := [(33, 3, .iinc 2 1, 1, 2, 0, []), (36, 3, .goto (-34), 0, 0, 0, [(2,[true,true,true])])]
def bX3_firstBroken_39 : List AOp := [(39, 1, .iconst (-1), (-1), 0, 0, []), (40, 1, .ireturn, 0, 0, 0, [])]
def blX3_firstBroken : List (Nat × List AOp) := [(0, bX3_firstBroken_0), (2, bX3_firstBroken_2), (8, bX3_firstBroken_8), (16, bX3_firstBroken_16), (31, bX3_firstBroken_31), (33, bX3_firstBroken_33), (39, bX3_firstBroken_39)]
def bX3_lowerOnce_0 : List AOp := [(0, 1, .aload_n 0, 0, 0, 0, []), (1, 3, .getfield 30, 0, 3, 6, []), (4, 1, .iconst 0, 0, 0, 0, []), (5, 1, .aload_n 0, 0, 0, 0, []), (6, 3, .getfield 33, 0, 3, 7, []), (9, 1, .iconst 0, 0, 0, 0, []), (10, 2, .bipush 12, 12, 0, 0, []), (12, 3, .invokestatic 58, 0, 0, 0, [(0,[])]), (15, 1, .iconst 0, 0, 0, 0, []), (16, 1, .istore_n 2, 0, 2, 0, []), (17, 1, .iconst 0, 0, 0, 0, []), (18, 1, .istore_n 3, 0, 3, 0, []), (19, 0, .nop, 0, 0, 0, [(19,[true,true,true,true,false,false,false])])]
def bX3_lowerOnce_19 : List AOp := [(19, 1, .iload_n 3, 0, 3, 0, []), (20, 2, .bipush 12, 12, 0, 0, []), (22, 3, .if_icmp .ge 136, 0, 0, 0, [(158,[false,false,true,false,false,false,false]), (25,[true,true,true,true,false,false,false])])]
def bX3_lowerOnce_25 : List AOp := [(25, 1, .iload_n 1, 0, 1, 0, []), (26, 1, .iload_n 3, 0, 3, 0, []), (27, 3, .invokestatic 54, 0, 49, 2, []), (30, 3, .ifCond .eq 21, 0, 0, 0, [(51,[true,true,true,true,false,false,false]), (33,[true,true,true,true,false,false,false])])]
def bX3_lowerOnce_33 : List AOp := [(33, 1, .aload_n 0, 0, 0, 0, []), (34, 3, .getfield 18, 0, 3, 2, []), (37, 1, .iload_n 3, 0, 3, 0, []), (38, 1, .iaload, 0, 0, 0, []), (39, 1, .aload_n 0, 0, 0, 0, []), (40, 3, .getfield 21, 0, 3, 3, []), (43, 1, .iload_n 3, 0, 3, 0, []), (44, 1, .iaload, 0, 0, 0, []), (45, 1, .ior, 0, 0, 0, []), (46, 1, .iload_n 1, 0, 1, 0, []), (47, 1, .iand, 0, 0, 0, []), (48, 3, .goto 4, 0, 0, 0, [(52,[true,true,true,true,false,false,false])])]
def bX3_lowerOnce_51 : List AOp := [(51, 1, .iconst 0, 0, 0, 0, []), (52, 0, .nop, 0, 0, 0, [(52,[true,true,true,true,false,false,false])])]
def bX3_lowerOnce_52 : List AOp := [(52, 2, .istore 4, 0, 4, 0, []), (54, 1, .iconst 0, 0, 0, 0, []), (55, 2, .istore 5, 0, 5, 0, []), (57, 0, .nop, 0, 0, 0, [(57,[true,true,true,true,true,true,false])])]
def bX3_lowerOnce_57 : List AOp := [(57, 2, .iload 5, 0, 5, 0, []), (59, 2, .bipush 12, 12, 0, 0, []), (61, 3, .if_icmp .ge 91, 0, 0, 0, [(152,[true,true,true,true,false,false,false]), (64,[true,true,true,true,true,true,false])])]
def bX3_lowerOnce_64 : List AOp := [(64, 2, .iload 4, 0, 4, 0, []), (66, 3, .ifCond .eq 86, 0, 0, 0, [(152,[true,true,true,true,false,false,false]), (69,[true,true,true,true,true,true,false])])]
def bX3_lowerOnce_69 : List AOp := [(69, 1, .aload_n 0, 0, 0, 0, []), (70, 3, .getfield 21, 0, 3, 3, []), (73, 1, .iload_n 3, 0, 3, 0, []), (74, 1, .iaload, 0, 0, 0, []), (75, 2, .iload 5, 0, 5, 0, []), (77, 3, .invokestatic 54, 0, 49, 2, []), (80, 3, .ifCond .eq 12, 0, 0, 0, [(92,[true,true,true,true,true,true,false]), (83,[true,true,true,true,true,true,false])])]
def bX3_lowerOnce_83 : List AOp := [(83, 1, .aload_n 0, 0, 0, 0, []), (84, 3, .getfield 33, 0, 3, 7, []), (87, 1, .iload_n 3, 0, 3, 0, []), (88, 1, .iaload, 0, 0, 0, []), (89, 3, .goto 14, 0, 0, 0, [(103,[true,true,true,true,true,true,false])])]
def bX3_lowerOnce_92 : List AOp := [(92, 1, .aload_n 0, 0, 0, 0, []), (93, 3, .getfield 33, 0, 3, 7, []), (96, 1, .iload_n 3, 0, 3, 0, []), (97, 1, .iaload, 0, 0, 0, []), (98, 1, .aload_n 0, 0, 0, 0, []), (99, 3, .getfield 39, 0, 3, 9, []), (102, 1, .iadd, 0, 0, 0, []), (103, 0, .nop, 0, 0, 0, [(103,[true,true,true,true,true,true,false])])]
def bX3_lowerOnce_103 : List AOp := [(103, 2, .istore 6, 0, 6, 0, []), (105, 2, .iload 4, 0, 4, 0, []), (107, 2, .iload 5, 0, 5, 0, []), (109, 3, .invokestatic 54, 0, 49, 2, []), (112, 3, .ifCond .eq 34, 0, 0, 0, [(146,[true,true,true,true,true,true,false]), (115,[true,true,true,true,true,true,true])])]
def bX3_lowerOnce_115 : List AOp := [(115, 1, .aload_n 0, 0, 0, 0, []), (116, 3, .getfield 30, 0, 3, 6, []), (119, 2, .iload 5, 0, 5, 0, []), (121, 1, .iaload, 0, 0, 0, []), (122, 2, .iload 6, 0, 6, 0, []), (124, 3, .if_icmp .le 22, 0, 0, 0, [(146,[true,true,true,true,true,true,false]), (127,[true,true,false,true,true,true,true])])]
def bX3_lowerOnce_127 : List AOp := [(127, 1, .aload_n 0, 0, 0, 0, []), (128, 3, .getfield 30, 0, 3, 6, []), (131, 2, .iload 5, 0, 5, 0, []), (133, 2, .iload 6, 0, 6, 0, []), (135, 1, .iastore, 0, 0, 0, []), (136, 1, .aload_n 0, 0, 0, 0, []), (137, 3, .getfield 36, 0, 3, 8, []), (140, 2, .iload 5, 0, 5, 0, []), (142, 1, .iload_n 3, 0, 3, 0, []), (143, 1, .iastore, 0, 0, 0, []), (144, 1, .iconst 1, 1, 0, 0, []), (145, 1, .istore_n 2, 0, 2, 0, []), (146, 0, .nop, 0, 0, 0, [(146,[true,true,true,true,true,true,false])])]
def bX3_lowerOnce_146 : List AOp := [(146, 3, .iinc 5 1, 1, 5, 0, []), (149, 3, .goto (-92), 0, 0, 0, [(57,[true,true,true,true,true,true,false])])]
def bX3_lowerOnce_152 : List AOp := [(152, 3, .iinc 3 1, 1, 3, 0, []), (155, 3, .goto (-136), 0, 0, 0, [(19,[true,true,true,true,false,false,false])])]
def bX3_lowerOnce_158 : List AOp := [(158, 1, .iload_n 2, 0, 2, 0, []), (159, 1, .ireturn, 0, 0, 0, [])]
def blX3_lowerOnce : List (Nat × List AOp) := [(0, bX3_lowerOnce_0), (19, bX3_lowerOnce_19), (25, bX3_lowerOnce_25), (33, bX3_lowerOnce_33), (51, bX3_lowerOnce_51), (52, bX3_lowerOnce_52), (57, bX3_lowerOnce_57), (64, bX3_lowerOnce_64), (69, bX3_lowerOnce_69), (83, bX3_lowerOnce_83), (92, bX3_lowerOnce_92), (103, bX3_lowerOnce_103), (115, bX3_lowerOnce_115), (127, bX3_lowerOnce_127), (146, bX3_lowerOnce_146), (152, bX3_lowerOnce_152), (158, bX3_lowerOnce_158)]
def bX3_raiseOnce_0 : List AOp := [(0, 1, .iconst 0, 0, 0, 0, []), (1, 1, .istore_n 2, 0, 2, 0, []), (2, 1, .iconst 0, 0, 0, 0, []), (3, 1, .istore_n 3, 0, 3, 0, []), (4, 0, .nop, 0, 0, 0, [(4,[true,true,true,true,false,false,false])])]
def bX3_raiseOnce_4 : List AOp := [(4, 1, .iload_n 3, 0, 3, 0, []), (5, 2, .bipush 12, 12, 0, 0, []), (7, 3, .if_icmp .ge 128, 0, 0, 0, [(135,[false,false,true,false,false,false,false]), (10,[true,true,true,true,false,false,false])])]
def bX3_raiseOnce_10 : List AOp := [(10, 1, .iload_n 1, 0, 1, 0, []), (11, 1, .iload_n 3, 0, 3, 0, []), (12, 3, .invokestatic 54, 0, 49, 2, []), (15, 3, .ifCond .eq 21, 0, 0, 0, [(36,[true,true,true,true,false,false,false]), (18,[true,true,true,true,false,false,false])])]
def bX3_raiseOnce_18 : List AOp := [(18, 1, .aload_n 0, 0, 0, 0, []), (19, 3, .getfield 18, 0, 3, 2, []), (22, 1, .iload_n 3, 0, 3, 0, []), (23, 1, .iaload, 0, 0, 0, []), (24, 1, .aload_n 0, 0, 0, 0, []), (25, 3, .getfield 21, 0, 3, 3, []), (28, 1, .iload_n 3, 0, 3, 0, []), (29, 1, .iaload, 0, 0, 0, []), (30, 1, .ior, 0, 0, 0, []), (31, 1, .iload_n 1, 0, 1, 0, []), (32, 1, .iand, 0, 0, 0, []), (33, 3, .goto 4, 0, 0, 0, [(37,[true,true,true,true,false,false,false])])]
def bX3_raiseOnce_36 : List AOp := [(36, 1, .iconst 0, 0, 0, 0, []), (37, 0, .nop, 0, 0, 0, [(37,[true,true,true,true,false,false,false])])]
def bX3_raiseOnce_37 : List AOp := [(37, 2, .istore 4, 0, 4, 0, []), (39, 1, .iconst 0, 0, 0, 0, []), (40, 2, .istore 5, 0, 5, 0, []), (42, 0, .nop, 0, 0, 0, [(42,[true,true,true,true,true,true,false])])]
def bX3_raiseOnce_42 : List AOp := [(42, 2, .iload 5, 0, 5, 0, []), (44, 2, .bipush 12, 12, 0, 0, []), (46, 3, .if_icmp .ge 83, 0, 0, 0, [(129,[true,true,true,true,false,false,false]), (49,[true,true,true,true,true,true,false])])]
def bX3_raiseOnce_49 : List AOp := [(49, 2, .iload 4, 0, 4, 0, []), (51, 3, .ifCond .eq 78, 0, 0, 0, [(129,[true,true,true,true,false,false,false]), (54,[true,true,true,true,true,true,false])])]
def bX3_raiseOnce_54 : List AOp := [(54, 1, .aload_n 0, 0, 0, 0, []), (55, 3, .getfield 21, 0, 3, 3, []), (58, 1, .iload_n 3, 0, 3, 0, []), (59, 1, .iaload, 0, 0, 0, []), (60, 2, .iload 5, 0, 5, 0, []), (62, 3, .invokestatic 54, 0, 49, 2, []), (65, 3, .ifCond .eq 13, 0, 0, 0, [(78,[true,true,true,true,true,true,false]), (68,[true,true,true,true,true,true,false])])]
def bX3_raiseOnce_68 : List AOp := [(68, 1, .aload_n 0, 0, 0, 0, []), (69, 3, .getfield 24, 0, 3, 4, []), (72, 2, .iload 5, 0, 5, 0, []), (74, 1, .iaload, 0, 0, 0, []), (75, 3, .goto 15, 0, 0, 0, [(90,[true,true,true,true,true,true,false])])]
def bX3_raiseOnce_78 : List AOp := [(78, 1, .aload_n 0, 0, 0, 0, []), (79, 3, .getfield 24, 0, 3, 4, []), (82, 2, .iload 5, 0, 5, 0, []), (84, 1, .iaload, 0, 0, 0, []), (85, 1, .aload_n 0, 0, 0, 0, []), (86, 3, .getfield 39, 0, 3, 9, []), (89, 1, .isub, 0, 0, 0, []), (90, 0, .nop, 0, 0, 0, [(90,[true,true,true,true,true,true,false])])]
def bX3_raiseOnce_90 : List AOp := [(90, 2, .istore 6, 0, 6, 0, []), (92, 2, .iload 4, 0, 4, 0, []), (94, 2, .iload 5, 0, 5, 0, []), (96, 3, .invokestatic 54, 0, 49, 2, []), (99, 3, .ifCond .eq 24, 0, 0, 0, [(123,[true,true,true,true,true,true,false]), (102,[true,true,true,true,true,true,true])])]
def bX3_raiseOnce_102 : List AOp := [(102, 1, .aload_n 0, 0, 0, 0, []), (103, 3, .getfield 24, 0, 3, 4, []), (106, 1, .iload_n 3, 0, 3, 0, []), (107, 1, .iaload, 0, 0, 0, []), (108, 2, .iload 6, 0, 6, 0, []), (110, 3, .if_icmp .ge 13, 0, 0, 0, [(123,[true,true,true,true,true,true,false]), (113,[true,true,false,true,true,true,true])])]
def bX3_raiseOnce_113 : List AOp := [(113, 1, .aload_n 0, 0, 0, 0, []), (114, 3, .getfield 24, 0, 3, 4, []), (117, 1, .iload_n 3, 0, 3, 0, []), (118, 2, .iload 6, 0, 6, 0, []), (120, 1, .iastore, 0, 0, 0, []), (121, 1, .iconst 1, 1, 0, 0, []), (122, 1, .istore_n 2, 0, 2, 0, []), (123, 0, .nop, 0, 0, 0, [(123,[true,true,true,true,true,true,false])])]
def bX3_raiseOnce_123 : List AOp := [(123, 3, .iinc 5 1, 1, 5, 0, []), (126, 3, .goto (-84), 0, 0, 0, [(42,[true,true,true,true,true,true,false])])]
def bX3_raiseOnce_129 : List AOp := [(129, 3, .iinc 3 1, 1, 3, 0, []), (132, 3, .goto (-128), 0, 0, 0, [(4,[true,true,true,true,false,false,false])])]
def bX3_raiseOnce_135 : List AOp := [(135, 1, .iload_n 2, 0, 2, 0, []), (136, 1, .ireturn, 0, 0, 0, [])]
def blX3_raiseOnce : List (Nat × List AOp) := [(0, bX3_raiseOnce_0), (4, bX3_raiseOnce_4), (10, bX3_raiseOnce_10), (18, bX3_raiseOnce_18), (36, bX3_raiseOnce_36), (37, bX3_raiseOnce_37), (42, bX3_raiseOnce_42), (49, bX3_raiseOnce_49), (54, bX3_raiseOnce_54), (68, bX3_raiseOnce_68), (78, bX3_raiseOnce_78), (90, bX3_raiseOnce_90), (102, bX3_raiseOnce_102), (113, bX3_raiseOnce_113), (123, bX3_raiseOnce_123), (129, bX3_raiseOnce_129), (135, bX3_raiseOnce_135)]
def bX3_conflictIn_0 : List AOp := [(0, 1, .aload_n 0, 0, 0, 0, []), (1, 1, .iload_n 1, 0, 1, 0, []), (2, 3, .invokevirtual 64, 0, 15, 2, [(3,[])]), (5, 1, .iconst (-1), (-1), 0, 0, []), (6, 3, .if_icmp .ne 5, 0, 0, 0, [(11,[true,false,false,false,false]), (9,[false,false,false,false,false])])]
def bX3_conflictIn_9 : List AOp := [(9, 1, .iconst 0, 0, 0, 0, []), (10, 1, .ireturn, 0, 0, 0, [])]
def bX3_conflictIn_11 : List AOp := [(11, 1, .iconst 0, 0, 0, 0, []), (12, 1, .istore_n 2, 0, 2, 0, []), (13, 1, .aload_n 0, 0, 0, 0, []), (14, 3, .getfield 43, 0, 3, 10, []), (17, 1, .istore_n 3, 0, 3, 0, []), (18, 1, .iconst 0, 0, 0, 0, []), (19, 2, .istore 4, 0, 4, 0, []), (21, 0, .nop, 0, 0, 0, [(21,[true,false,true,true,true])])]
def bX3_conflictIn_21 : List AOp := [(21, 2, .iload 4, 0, 4, 0, []), (23, 2, .bipush 12, 12, 0, 0, []), (25, 3, .if_icmp .ge 32, 0, 0, 0, [(57,[false,false,true,false,false]), (28,[true,false,true,true,true])])]
def bX3_conflictIn_28 : List AOp := [(28, 1, .iload_n 3, 0, 3, 0, []), (29, 3, .ifCond .lt 28, 0, 0, 0, [(57,[false,false,true,false,false]), (32,[true,false,true,true,true])])]
def bX3_conflictIn_32 : List AOp := [(32, 1, .iload_n 3, 0, 3, 0, []), (33, 2, .bipush 12, 12, 0, 0, []), (35, 3, .if_icmp .ge 22, 0, 0, 0, [(57,[false,false,true,false,false]), (38,[true,false,true,true,true])])]
def bX3_conflictIn_38 : List AOp := [(38, 1, .iload_n 2, 0, 2, 0, []), (39, 1, .iconst 1, 1, 0, 0, []), (40, 1, .iload_n 3, 0, 3, 0, []), (41, 1, .ishl, 0, 0, 0, []), (42, 1, .ior, 0, 0, 0, []), (43, 1, .istore_n 2, 0, 2, 0, []), (44, 1, .aload_n 0, 0, 0, 0, []), (45, 3, .getfield 36, 0, 3, 8, []), (48, 1, .iload_n 3, 0, 3, 0, []), (49, 1, .iaload, 0, 0, 0, []), (50, 1, .istore_n 3, 0, 3, 0, []), (51, 3, .iinc 4 1, 1, 4, 0, []), (54, 3, .goto (-33), 0, 0, 0, [(21,[true,false,true,true,true])])]
def bX3_conflictIn_57 : List AOp := [(57, 1, .iload_n 2, 0, 2, 0, []), (58, 1, .ireturn, 0, 0, 0, [])]
def blX3_conflictIn : List (Nat × List AOp) := [(0, bX3_conflictIn_0), (9, bX3_conflictIn_9), (11, bX3_conflictIn_11), (21, bX3_conflictIn_21), (28, bX3_conflictIn_28), (32, bX3_conflictIn_32), (38, bX3_conflictIn_38), (57, bX3_conflictIn_57)]
def bX3_quarrelIn_0 : List AOp := [(0, 1, .aload_n 0, 0, 0, 0, []), (1, 1, .iload_n 1, 0, 1, 0, []), (2, 3, .invokevirtual 64, 0, 15, 2, [(3,[])]), (5, 1, .istore_n 2, 0, 2, 0, []), (6, 1, .iload_n 2, 0, 2, 0, []), (7, 1, .iconst (-1), (-1), 0, 0, []), (8, 3, .if_icmp .ne 5, 0, 0, 0, [(13,[true,true,true,false,false,false]), (11,[false,false,false,false,false,false])])]
def bX3_quarrelIn_11 : List AOp := [(11, 1, .iconst 0, 0, 0, 0, []), (12, 1, .ireturn, 0, 0, 0, [])]
def bX3_quarrelIn_13 : List AOp := [(13, 1, .iload_n 1, 0, 1, 0, []), (14, 1, .istore_n 3, 0, 3, 0, []), (15, 2, .bipush 11, 11, 0, 0, []), (17, 2, .istore 4, 0, 4, 0, []), (19, 0, .nop, 0, 0, 0, [(19,[true,false,true,true,true,false])])]
def bX3_quarrelIn_19 : List AOp := [(19, 2, .iload 4, 0, 4, 0, []), (21, 3, .ifCond .lt 38, 0, 0, 0, [(59,[false,false,false,true,false,false]), (24,[true,false,true,true,true,false])])]
def bX3_quarrelIn_24 : List AOp := [(24, 1, .iload_n 3, 0, 3, 0, []), (25, 1, .iconst 1, 1, 0, 0, []), (26, 2, .iload 4, 0, 4, 0, []), (28, 1, .ishl, 0, 0, 0, []), (29, 1, .iconst (-1), (-1), 0, 0, []), (30, 1, .ixor, 0, 0, 0, []), (31, 1, .iand, 0, 0, 0, []), (32, 2, .istore 5, 0, 5, 0, []), (34, 2, .iload 5, 0, 5, 0, []), (36, 1, .iload_n 3, 0, 3, 0, []), (37, 3, .if_icmp .eq 16, 0, 0, 0, [(53,[true,false,true,true,true,false]), (40,[true,false,true,true,true,true])])]
def bX3_quarrelIn_40 : List AOp := [(40, 1, .aload_n 0, 0, 0, 0, []), (41, 2, .iload 5, 0, 5, 0, []), (43, 3, .invokevirtual 64, 0, 15, 2, [(3,[])]), (46, 1, .iload_n 2, 0, 2, 0, []), (47, 3, .if_icmp .ne 6, 0, 0, 0, [(53,[true,false,true,true,true,false]), (50,[true,false,true,false,true,true])])]
def bX3_quarrelIn_50 : List AOp := [(50, 2, .iload 5, 0, 5, 0, []), (52, 1, .istore_n 3, 0, 3, 0, []), (53, 0, .nop, 0, 0, 0, [(53,[true,false,true,true,true,false])])]
def bX3_quarrelIn_53 : List AOp := [(53, 3, .iinc 4 (-1), (-1), 4, 0, []), (56, 3, .goto (-37), 0, 0, 0, [(19,[true,false,true,true,true,false])])]
def bX3_quarrelIn_59 : List AOp := [(59, 1, .iload_n 3, 0, 3, 0, []), (60, 1, .ireturn, 0, 0, 0, [])]
def blX3_quarrelIn : List (Nat × List AOp) := [(0, bX3_quarrelIn_0), (11, bX3_quarrelIn_11), (13, bX3_quarrelIn_13), (19, bX3_quarrelIn_19), (24, bX3_quarrelIn_24), (40, bX3_quarrelIn_40), (50, bX3_quarrelIn_50), (53, bX3_quarrelIn_53), (59, bX3_quarrelIn_59)]
def bX3_keepYears_0 : List AOp := [(0, 1, .aload_n 0, 0, 0, 0, []), (1, 1, .iload_n 1, 0, 1, 0, []), (2, 3, .invokevirtual 64, 0, 15, 2, [(3,[])]), (5, 1, .pop, 0, 0, 0, []), (6, 1, .aload_n 0, 0, 0, 0, []), (7, 3, .getfield 30, 0, 3, 6, []), (10, 1, .iconst 0, 0, 0, 0, []), (11, 1, .aload_n 0, 0, 0, 0, []), (12, 3, .getfield 27, 0, 3, 5, []), (15, 1, .iconst 0, 0, 0, 0, []), (16, 2, .bipush 12, 12, 0, 0, []), (18, 3, .invokestatic 58, 0, 0, 0, [(0,[])]), (21, 1, .aload_n 0, 0, 0, 0, []), (22, 3, .getfield 9, 0, 3, 0, []), (25, 1, .iconst 0, 0, 0, 0, []), (26, 1, .aload_n 0, 0, 0, 0, []), (27, 3, .getfield 24, 0, 3, 4, []), (30, 1, .iconst 0, 0, 0, 0, []), (31, 2, .bipush 12, 12, 0, 0, []), (33, 3, .invokestatic 58, 0, 0, 0, [(0,[])]), (36, 1, .iconst 0, 0, 0, 0, []), (37, 1, .istore_n 2, 0, 2, 0, []), (38, 0, .nop, 0, 0, 0, [(38,[true,true,true])])]
def bX3_keepYears_38 : List AOp := [(38, 1, .iload_n 2, 0, 2, 0, []), (39, 2, .bipush 12, 12, 0, 0, []), (41, 3, .if_icmp .gt 20, 0, 0, 0, [(61,[false,false,false]), (44,[true,true,true])])]
def bX3_keepYears_44 : List AOp := [(44, 1, .aload_n 0, 0, 0, 0, []), (45, 1, .iload_n 1, 0, 1, 0, []), (46, 3, .invokevirtual 67, 0, 18, 2, [(3,[])]), (49, 3, .ifCond .ne 6, 0, 0, 0, [(55,[true,true,true]), (52,[false,false,false])])]
def bX3_keepYears_52 : List AOp := [(52, 3, .goto 9, 0, 0, 0, [(61,[false,false,false])])]
def bX3_keepYears_55 : List AOp := [(55, 3, .iinc 2 1, 1, 2, 0, []), (58, 3, .goto (-20), 0, 0, 0, [(38,[true,true,true])])]
def bX3_keepYears_61 : List AOp := [(61, 1, .return_, 0, 0, 0, [])]
def blX3_keepYears : List (Nat × List AOp) := [(0, bX3_keepYears_0), (38, bX3_keepYears_38), (44, bX3_keepYears_44), (52, bX3_keepYears_52), (55, bX3_keepYears_55), (61, bX3_keepYears_61)]
def bX4_putBytes_0 : List AOp := [(0, 2, .bipush 24, 24, 0, 0, []), (2, 1, .istore_n 2, 0, 2, 0, []), (3, 0, .nop, 0, 0, 0, [(3,[true,true,true])])]
def bX4_putBytes_3 : List AOp := [(3, 1, .iload_n 2, 0, 2, 0, []), (4, 3, .ifCond .lt 51, 0, 0, 0, [(55,[false,false,false]), (7,[true,true,true])])]
def bX4_putBytes_7 : List AOp := [(7, 1, .aload_n 0, 0, 0, 0, []), (8, 3, .getfield 21, 0, 4, 3, []), (11, 3, .ifCond .lt 38, 0, 0, 0, [(49,[true,true,true]), (14,[true,true,true])])]
def bX4_putBytes_14 : List AOp := [(14, 1, .aload_n 0, 0, 0, 0, []), (15, 3, .getfield 21, 0, 4, 3, []), (18, 2, .bipush 40, 40, 0, 0, []), (20, 3, .if_icmp .ge 29, 0, 0, 0, [(49,[true,true,true]), (23,[true,true,true])])]
def bX4_putBytes_23 : List AOp := [(23, 1, .aload_n 0, 0, 0, 0, []), (24, 3, .getfield 9, 0, 4, 0, []), (27, 1, .aload_n 0, 0, 0, 0, []), (28, 3, .getfield 21, 0, 4, 3, []), (31, 1, .iload_n 1, 0, 1, 0, []), (32, 1, .iload_n 2, 0, 2, 0, []), (33, 1, .iushr, 0, 0, 0, []), (34, 3, .sipush 255, 255, 0, 0, []), (37, 1, .iand, 0, 0, 0, []), (38, 1, .iastore, 0, 0, 0, []), (39, 1, .aload_n 0, 0, 0, 0, []), (40, 1, .dup, 0, 0, 0, []), (41, 3, .getfield 21, 0, 4, 3, []), (44, 1, .iconst 1, 1, 0, 0, []), (45, 1, .iadd, 0, 0, 0, []), (46, 3, .putfield 21, 0, 4, 3, []), (49, 0, .nop, 0, 0, 0, [(49,[true,true,true])])]
def bX4_putBytes_49 : List AOp := [(49, 3, .iinc 2 (-8), (-8), 2, 0, []), (52, 3, .goto (-49), 0, 0, 0, [(3,[true,true,true])])]
def bX4_putBytes_55 : List AOp := [(55, 1, .return_, 0, 0, 0, [])]
def blX4_putBytes : List (Nat × List AOp) := [(0, bX4_putBytes_0), (3, bX4_putBytes_3), (7, bX4_putBytes_7), (14, bX4_putBytes_14), (23, bX4_putBytes_23), (49, bX4_putBytes_49), (55, bX4_putBytes_55)]
def bX4_take_0 : List AOp := [(0, 1, .iload_n 1, 0, 1, 0, []), (1, 3, .ifCond .lt 27, 0, 0, 0, [(28,[false,false,false,false]), (4,[true,true,true,false])])]
def bX4_take_4 : List AOp := [(4, 1, .iload_n 1, 0, 1, 0, []), (5, 2, .bipush 12, 12, 0, 0, []), (7, 3, .if_icmp .ge 21, 0, 0, 0, [(28,[false,false,false,false]), (10,[true,true,true,false])])]
def bX4_take_10 : List AOp := [(10, 1, .iload_n 2, 0, 2, 0, []), (11, 3, .ifCond .lt 17, 0, 0, 0, [(28,[false,false,false,false]), (14,[true,true,true,false])])]
def bX4_take_14 : List AOp := [(14, 1, .iload_n 2, 0, 2, 0, []), (15, 2, .bipush 20, 20, 0, 0, []), (17, 3, .if_icmp .gt 11, 0, 0, 0, [(28,[false,false,false,false]), (20,[true,true,true,false])])]
def bX4_take_20 : List AOp := [(20, 1, .iload_n 2, 0, 2, 0, []), (21, 1, .aload_n 0, 0, 0, 0, []), (22, 3, .getfield 21, 0, 4, 3, []), (25, 3, .if_icmp .le 5, 0, 0, 0, [(30,[true,true,true,false]), (28,[false,false,false,false])])]
def bX4_take_28 : List AOp := [(28, 1, .iconst 0, 0, 0, 0, []), (29, 1, .ireturn, 0, 0, 0, [])]
def bX4_take_30 : List AOp := [(30, 1, .aload_n 0, 0, 0, 0, []), (31, 1, .iconst 0, 0, 0, 0, []), (32, 3, .putfield 21, 0, 4, 3, []), (35, 1, .iconst 0, 0, 0, 0, []), (36, 1, .istore_n 3, 0, 3, 0, []), (37, 0, .nop, 0, 0, 0, [(37,[true,true,true,true])])]
def bX4_take_37 : List AOp := [(37, 1, .iload_n 3, 0, 3, 0, []), (38, 1, .iload_n 2, 0, 2, 0, []), (39, 3, .if_icmp .ge 33, 0, 0, 0, [(72,[true,true,true,false]), (42,[true,true,true,true])])]
def bX4_take_42 : List AOp := [(42, 1, .aload_n 0, 0, 0, 0, []), (43, 3, .getfield 9, 0, 4, 0, []), (46, 1, .iload_n 3, 0, 3, 0, []), (47, 1, .iaload, 0, 0, 0, []), (48, 2, .bipush 97, 97, 0, 0, []), (50, 3, .if_icmp .lt 14, 0, 0, 0, [(64,[false,false,false,false]), (53,[true,true,true,true])])]
def bX4_take_53 : List AOp := [(53, 1, .aload_n 0, 0, 0, 0, []), (54, 3, .getfield 9, 0, 4, 0, []), (57, 1, .iload_n 3, 0, 3, 0, []), (58, 1, .iaload, 0, 0, 0, []), (59, 2, .bipush 122, 122, 0, 0, []), (61, 3, .if_icmp .le 5, 0, 0, 0, [(66,[true,true,true,true]), (64,[false,false,false,false])])]
def bX4_take_64 : List AOp := [(64, 1, .iconst 0, 0, 0, 0, []), (65, 1, .ireturn, 0, 0, 0, [])]
def bX4_take_66 : List AOp := [(66, 3, .iinc 3 1, 1, 3, 0, []), (69, 3, .goto (-32), 0, 0, 0, [(37,[true,true,true,true])])]
def bX4_take_72 : List AOp := [(72, 1, .aload_n 0, 0, 0, 0, []), (73, 3, .getfield 9, 0, 4, 0, []), (76, 1, .iconst 0, 0, 0, 0, []), (77, 1, .aload_n 0, 0, 0, 0, []), (78, 3, .getfield 15, 0, 4, 1, []), (81, 1, .iload_n 1, 0, 1, 0, []), (82, 2, .bipush 20, 20, 0, 0, []), (84, 1, .imul, 0, 0, 0, []), (85, 1, .iload_n 2, 0, 2, 0, []), (86, 3, .invokestatic 37, 0, 0, 0, [(0,[])]), (89, 1, .aload_n 0, 0, 0, 0, []), (90, 3, .getfield 18, 0, 4, 2, []), (93, 1, .iload_n 1, 0, 1, 0, []), (94, 1, .iload_n 2, 0, 2, 0, []), (95, 1, .iastore, 0, 0, 0, []), (96, 1, .iconst 1, 1, 0, 0, []), (97, 1, .ireturn, 0, 0, 0, [])]
def blX4_take : List (Nat × List AOp) := [(0, bX4_take_0), (4, bX4_take_4), (10, bX4_take_10), (14, bX4_take_14), (20, bX4_take_20), (28, bX4_take_28), (30, bX4_take_30), (37, bX4_take_37), (42, bX4_take_42), (53, bX4_take_53), (64, bX4_take_64), (66, bX4_take_66), (72, bX4_take_72)]
def bX4_findModel_0 : List AOp := [(0, 1, .aload_n 0, 0, 0, 0, []), (1, 1, .iconst (-1), (-1), 0, 0, []), (2, 3, .putfield 25, 0, 4, 4, []), (5, 1, .aload_n 0, 0, 0, 0, []), (6, 1, .iconst 3, 3, 0, 0, []), (7, 3, .putfield 28, 0, 4, 5, []), (10, 1, .iconst 0, 0, 0, 0, []), (11, 1, .istore_n 2, 0, 2, 0, []), (12, 0, .nop, 0, 0, 0, [(12,[true,true,true])])]
def bX4_findModel_12 : List AOp := [(12, 1, .iload_n 2, 0, 2, 0, []), (13, 2, .bipush 12, 12, 0, 0, []), (15, 3, .if_icmp .ge 20, 0, 0, 0, [(35,[false,false,false]), (18,[true,true,true])])]
def bX4_findModel_18 : List AOp := [(18, 1, .iload_n 2, 0, 2, 0, []), (19, 1, .iload_n 1, 0, 1, 0, []), (20, 3, .if_icmp .eq 9, 0, 0, 0, [(29,[true,true,true]), (23,[true,true,true])])]
def bX4_findModel_23 : List AOp := [(23, 1, .aload_n 0, 0, 0, 0, []), (24, 1, .iload_n 1, 0, 1, 0, []), (25, 1, .iload_n 2, 0, 2, 0, []), (26, 3, .invokevirtual 43, 0, 25, 3, [(4,[])]), (29, 0, .nop, 0, 0, 0, [(29,[true,true,true])])]
def bX4_findModel_29 : List AOp := [(29, 3, .iinc 2 1, 1, 2, 0, []), (32, 3, .goto (-20), 0, 0, 0, [(12,[true,true,true])])]
def bX4_findModel_35 : List AOp := [(35, 1, .return_, 0, 0, 0, [])]
def blX4_findModel : List (Nat × List AOp) := [(0, bX4_findModel_0), (12, bX4_findModel_12), (18, bX4_findModel_18), (23, bX4_findModel_23), (29, bX4_findModel_29), (35, bX4_findModel_35)]
def bX4_compareWith_0 : List AOp := [(0, 1, .iconst 0, 0, 0, 0, []), (1, 1, .istore_n 3, 0, 3, 0, []), (2, 0, .nop, 0, 0, 0, [(2,[true,true,true,true,false,false])])]
def bX4_compareWith_2 : List AOp := [(2, 1, .iload_n 3, 0, 3, 0, []), (3, 2, .bipush 20, 20, 0, 0, []), (5, 3, .if_icmp .ge 67, 0, 0, 0, [(72,[false,false,false,false,false,false]), (8,[true,true,true,true,false,false])])]
def bX4_compareWith_8 : List AOp := [(8, 1, .iconst 0, 0, 0, 0, []), (9, 2, .istore 4, 0, 4, 0, []), (11, 0, .nop, 0, 0, 0, [(11,[true,true,true,true,true,false])])]
def bX4_compareWith_11 : List AOp := [(11, 2, .iload 4, 0, 4, 0, []), (13, 2, .bipush 20, 20, 0, 0, []), (15, 3, .if_icmp .ge 51, 0, 0, 0, [(66,[true,true,true,true,false,false]), (18,[true,true,true,true,true,false])])]
def bX4_compareWith_18 : List AOp := [(18, 1, .aload_n 0, 0, 0, 0, []), (19, 1, .iload_n 1, 0, 1, 0, []), (20, 1, .iload_n 3, 0, 3, 0, []), (21, 1, .iload_n 2, 0, 2, 0, []), (22, 2, .iload 4, 0, 4, 0, []), (24, 3, .invokevirtual 47, 0, 26, 5, [(4,[])]), (27, 2, .istore 5, 0, 5, 0, []), (29, 2, .iload 5, 0, 5, 0, []), (31, 1, .aload_n 0, 0, 0, 0, []), (32, 3, .getfield 28, 0, 4, 5, []), (35, 3, .if_icmp .le 25, 0, 0, 0, [(60,[true,true,true,true,true,false]), (38,[true,true,true,true,true,true])])]
def bX4_compareWith_38 : List AOp := [(38, 1, .aload_n 0, 0, 0, 0, []), (39, 1, .iload_n 2, 0, 2, 0, []), (40, 3, .putfield 25, 0, 4, 4, []), (43, 1, .aload_n 0, 0, 0, 0, []), (44, 2, .iload 5, 0, 5, 0, []), (46, 3, .putfield 28, 0, 4, 5, []), (49, 1, .aload_n 0, 0, 0, 0, []), (50, 1, .iload_n 3, 0, 3, 0, []), (51, 3, .putfield 31, 0, 4, 6, []), (54, 1, .aload_n 0, 0, 0, 0, []), (55, 2, .iload 4, 0, 4, 0, []), (57, 3, .putfield 34, 0, 4, 7, []), (60, 0, .nop, 0, 0, 0, [(60,[true,true,true,true,true,false])])]
def bX4_compareWith_60 : List AOp := [(60, 3, .iinc 4 1, 1, 4, 0, []), (63, 3, .goto (-52), 0, 0, 0, [(11,[true,true,true,true,true,false])])]
def bX4_compareWith_66 : List AOp := [(66, 3, .iinc 3 1, 1, 3, 0, []), (69, 3, .goto (-67), 0, 0, 0, [(2,[true,true,true,true,false,false])])]
def bX4_compareWith_72 : List AOp := [(72, 1, .return_, 0, 0, 0, [])]
def blX4_compareWith : List (Nat × List AOp) := [(0, bX4_compareWith_0), (2, bX4_compareWith_2), (8, bX4_compareWith_8), (11, bX4_compareWith_11), (18, bX4_compareWith_18), (38, bX4_compareWith_38), (60, bX4_compareWith_60), (66, bX4_compareWith_66), (72, bX4_compareWith_72)]
def bX4_alike_0 : List AOp := [(0, 1, .iload_n 1, 0, 1, 0, []), (1, 3, .ifCond .lt 19, 0, 0, 0, [(20,[false,false,false,false,false,false,false]), (4,[true,true,true,true,true,false,false])])]
def bX4_alike_4 : List AOp := [(4, 1, .iload_n 1, 0, 1, 0, []), (5, 2, .bipush 12, 12, 0, 0, []), (7, 3, .if_icmp .ge 13, 0, 0, 0, [(20,[false,false,false,false,false,false,false]), (10,[true,true,true,true,true,false,false])])]
def bX4_alike_10 : List AOp := [(10, 1, .iload_n 3, 0, 3, 0, []), (11, 3, .ifCond .lt 9, 0, 0, 0, [(20,[false,false,false,false,false,false,false]), (14,[true,true,true,true,true,false,false])])]
def bX4_alike_14 : List AOp := [(14, 1, .iload_n 3, 0, 3, 0, []), (15, 2, .bipush 12, 12, 0, 0, []), (17, 3, .if_icmp .lt 5, 0, 0, 0, [(22,[true,true,true,true,true,false,false]), (20,[false,false,false,false,false,false,false])])]
def bX4_alike_20 : List AOp := [(20, 1, .iconst 0, 0, 0, 0, []), (21, 1, .ireturn, 0, 0, 0, [])]
def bX4_alike_22 : List AOp := [(22, 1, .aload_n 0, 0, 0, 0, []), (23, 3, .getfield 18, 0, 4, 2, []), (26, 1, .iload_n 1, 0, 1, 0, []), (27, 1, .iaload, 0, 0, 0, []), (28, 1, .iload_n 2, 0, 2, 0, []), (29, 1, .isub, 0, 0, 0, []), (30, 1, .aload_n 0, 0, 0, 0, []), (31, 3, .getfield 18, 0, 4, 2, []), (34, 1, .iload_n 3, 0, 3, 0, []), (35, 1, .iaload, 0, 0, 0, []), (36, 2, .iload 4, 0, 4, 0, []), (38, 1, .isub, 0, 0, 0, []), (39, 3, .invokestatic 51, 0, 0, 0, [(2,[])]), (42, 2, .istore 5, 0, 5, 0, []), (44, 2, .iload 5, 0, 5, 0, []), (46, 1, .aload_n 0, 0, 0, 0, []), (47, 3, .getfield 28, 0, 4, 5, []), (50, 3, .if_icmp .gt 5, 0, 0, 0, [(55,[true,true,true,true,true,true,false]), (53,[false,false,false,false,false,false,false])])]
def bX4_alike_53 : List AOp := [(53, 1, .iconst 0, 0, 0, 0, []), (54, 1, .ireturn, 0, 0, 0, [])]
def bX4_alike_55 : List AOp := [(55, 1, .iconst 0, 0, 0, 0, []), (56, 2, .istore 6, 0, 6, 0, []), (58, 0, .nop, 0, 0, 0, [(58,[true,true,true,true,true,true,true])])]
def bX4_alike_58 : List AOp := [(58, 2, .iload 6, 0, 6, 0, []), (60, 2, .iload 5, 0, 5, 0, []), (62, 3, .if_icmp .ge 41, 0, 0, 0, [(103,[false,false,false,false,false,false,true]), (65,[true,true,true,true,true,true,true])])]
def bX4_alike_65 : List AOp := [(65, 1, .aload_n 0, 0, 0, 0, []), (66, 3, .getfield 15, 0, 4, 1, []), (69, 1, .iload_n 1, 0, 1, 0, []), (70, 2, .bipush 20, 20, 0, 0, []), (72, 1, .imul, 0, 0, 0, []), (73, 1, .iload_n 2, 0, 2, 0, []), (74, 1, .iadd, 0, 0, 0, []), (75, 2, .iload 6, 0, 6, 0, []), (77, 1, .iadd, 0, 0, 0, []), (78, 1, .iaload, 0, 0, 0, []), (79, 1, .aload_n 0, 0, 0, 0, []), (80, 3, .getfield 15, 0, 4, 1, []), (83, 1, .iload_n 3, 0, 3, 0, []), (84, 2, .bipush 20, 20, 0, 0, []), (86, 1, .imul, 0, 0, 0, []), (87, 2, .iload 4, 0, 4, 0, []), (89, 1, .iadd, 0, 0, 0, []), (90, 2, .iload 6, 0, 6, 0, []), (92, 1, .iadd, 0, 0, 0, []), (93, 1, .iaload, 0, 0, 0, []), (94, 3, .if_icmp .ne 9, 0, 0, 0, [(103,[false,false,false,false,false,false,true]), (97,[true,true,true,true,true,true,true])])]
def bX4_alike_97 : List AOp := [(97, 3, .iinc 6 1, 1, 6, 0, []), (100, 3, .goto (-42), 0, 0, 0, [(58,[true,true,true,true,true,true,true])])]
def bX4_alike_103 : List AOp := [(103, 2, .iload 6, 0, 6, 0, []), (105, 1, .ireturn, 0, 0, 0, [])]
def blX4_alike : List (Nat × List AOp) := [(0, bX4_alike_0), (4, bX4_alike_4), (10, bX4_alike_10), (14, bX4_alike_14), (20, bX4_alike_20), (22, bX4_alike_22), (53, bX4_alike_53), (55, bX4_alike_55), (58, bX4_alike_58), (65, bX4_alike_65), (97, bX4_alike_97), (103, bX4_alike_103)]
def bX5_person_0 : List AOp := [(0, 1, .aload_n 0, 0, 0, 0, []), (1, 3, .getfield 14, 0, 5, 0, []), (4, 1, .iload_n 1, 0, 1, 0, []), (5, 1, .iload_n 2, 0, 2, 0, []), (6, 3, .invokevirtual 75, 0, 11, 3, [(2,[])]), (9, 1, .ireturn, 0, 0, 0, [])]
def blX5_person : List (Nat × List AOp) := [(0, bX5_person_0)]
def bX5_lived_0 : List AOp := [(0, 1, .aload_n 0, 0, 0, 0, []), (1, 3, .getfield 14, 0, 5, 0, []), (4, 1, .iload_n 1, 0, 1, 0, []), (5, 1, .iload_n 2, 0, 2, 0, []), (6, 1, .iload_n 3, 0, 3, 0, []), (7, 3, .invokevirtual 79, 0, 12, 4, [(2,[])]), (10, 3, .ifCond .ne 5, 0, 0, 0, [(15,[true,false,false,false]), (13,[false,false,false,false])])]
def bX5_lived_13 : List AOp := [(13, 1, .iconst 0, 0, 0, 0, []), (14, 1, .ireturn, 0, 0, 0, [])]
def bX5_lived_15 : List AOp := [(15, 1, .aload_n 0, 0, 0, 0, []), (16, 1, .iconst 0, 0, 0, 0, []), (17, 3, .putfield 71, 1, 5, 12, []), (20, 1, .iconst 1, 1, 0, 0, []), (21, 1, .ireturn, 0, 0, 0, [])]
def blX5_lived : List (Nat × List AOp) := [(0, bX5_lived_0), (13, bX5_lived_13), (15, bX5_lived_15)]
def bX5_formula_0 : List AOp := [(0, 1, .aload_n 0, 0, 0, 0, []), (1, 3, .getfield 18, 0, 5, 1, []), (4, 1, .iload_n 1, 0, 1, 0, []), (5, 1, .iload_n 2, 0, 2, 0, []), (6, 3, .invokevirtual 75, 0, 11, 3, [(2,[])]), (9, 1, .ireturn, 0, 0, 0, [])]
def blX5_formula : List (Nat × List AOp) := [(0, bX5_formula_0)]
def bX5_seal_0 : List AOp := [(0, 1, .aload_n 0, 0, 0, 0, []), (1, 3, .getfield 21, 0, 5, 2, []), (4, 1, .iload_n 1, 0, 1, 0, []), (5, 1, .iload_n 2, 0, 2, 0, []), (6, 3, .invokevirtual 75, 0, 11, 3, [(2,[])]), (9, 1, .ireturn, 0, 0, 0, [])]
def blX5_seal : List (Nat × List AOp) := [(0, bX5_seal_0)]
def bX5_span_0 : List AOp := [(0, 1, .iload_n 1, 0, 1, 0, []), (1, 3, .ifCond .lt 10, 0, 0, 0, [(11,[false,false]), (4,[true,true])])]
def bX5_span_4 : List AOp := [(4, 1, .iload_n 1, 0, 1, 0, []), (5, 3, .sipush 200, 200, 0, 0, []), (8, 3, .if_icmp .le 5, 0, 0, 0, [(13,[true,true]), (11,[false,false])])]
def bX5_span_11 : List AOp := [(11, 1, .iconst 0, 0, 0, 0, []), (12, 1, .ireturn, 0, 0, 0, [])]
def bX5_span_13 : List AOp := [(13, 1, .aload_n 0, 0, 0, 0, []), (14, 3, .getfield 37, 0, 5, 5, []), (17, 1, .iload_n 1, 0, 1, 0, []), (18, 3, .putfield 83, 0, 3, 9, []), (21, 1, .aload_n 0, 0, 0, 0, []), (22, 1, .iconst 0, 0, 0, 0, []), (23, 3, .putfield 71, 1, 5, 12, []), (26, 1, .iconst 1, 1, 0, 0, []), (27, 1, .ireturn, 0, 0, 0, [])]
def blX5_span : List (Nat × List AOp) := [(0, bX5_span_0), (4, bX5_span_4), (11, bX5_span_11), (13, bX5_span_13)]
def bX5_deed_0 : List AOp := [(0, 1, .iload_n 3, 0, 3, 0, []), (1, 1, .iconst 1, 1, 0, 0, []), (2, 3, .if_icmp .lt 9, 0, 0, 0, [(11,[false,false,false,false,false]), (5,[true,true,true,true,false])])]
def bX5_deed_5 : List AOp := [(5, 1, .iload_n 3, 0, 3, 0, []), (6, 2, .bipush 99, 99, 0, 0, []), (8, 3, .if_icmp .le 5, 0, 0, 0, [(13,[true,true,true,true,false]), (11,[false,false,false,false,false])])]
def bX5_deed_11 : List AOp := [(11, 1, .iconst (-1), (-1), 0, 0, []), (12, 1, .ireturn, 0, 0, 0, [])]
def bX5_deed_13 : List AOp := [(13, 1, .aload_n 0, 0, 0, 0, []), (14, 3, .getfield 24, 0, 5, 3, []), (17, 1, .iload_n 1, 0, 1, 0, []), (18, 1, .iload_n 2, 0, 2, 0, []), (19, 3, .invokevirtual 75, 0, 11, 3, [(2,[])]), (22, 2, .istore 4, 0, 4, 0, []), (24, 2, .iload 4, 0, 4, 0, []), (26, 3, .ifCond .lt 10, 0, 0, 0, [(36,[false,false,false,false,false]), (29,[true,false,false,true,true])])]
def bX5_deed_29 : List AOp := [(29, 2, .iload 4, 0, 4, 0, []), (31, 2, .bipush 12, 12, 0, 0, []), (33, 3, .if_icmp .lt 5, 0, 0, 0, [(38,[true,false,false,true,true]), (36,[false,false,false,false,false])])]
def bX5_deed_36 : List AOp := [(36, 1, .iconst (-1), (-1), 0, 0, []), (37, 1, .ireturn, 0, 0, 0, [])]
def bX5_deed_38 : List AOp := [(38, 1, .aload_n 0, 0, 0, 0, []), (39, 3, .getfield 46, 0, 5, 6, []), (42, 3, .getfield 86, 0, 1, 1, []), (45, 2, .iload 4, 0, 4, 0, []), (47, 1, .iload_n 3, 0, 3, 0, []), (48, 1, .iastore, 0, 0, 0, []), (49, 1, .aload_n 0, 0, 0, 0, []), (50, 3, .getfield 57, 0, 5, 8, []), (53, 2, .iload 4, 0, 4, 0, []), (55, 1, .iconst (-1), (-1), 0, 0, []), (56, 1, .iastore, 0, 0, 0, []), (57, 1, .aload_n 0, 0, 0, 0, []), (58, 1, .iconst 0, 0, 0, 0, []), (59, 3, .putfield 71, 1, 5, 12, []), (62, 2, .iload 4, 0, 4, 0, []), (64, 1, .ireturn, 0, 0, 0, [])]
def blX5_deed : List (Nat × List AOp) := [(0, bX5_deed_0), (5, bX5_deed_5), (11, bX5_deed_11), (13, bX5_deed_13), (29, bX5_deed_29), (36, bX5_deed_36), (38, bX5_deed_38)]
def bX5_mark_0 : List AOp := [(0, 1, .aload_n 0, 0, 0, 0, []), (1, 3, .getfield 24, 0, 5, 3, []), (4, 1, .iload_n 1, 0, 1, 0, []), (5, 3, .invokevirtual 89, 0, 10, 2, [(2,[])]), (8, 3, .ifCond .eq 22, 0, 0, 0, [(30,[false,false,false,false]), (11,[true,true,true,true])])]
def bX5_mark_11 : List AOp := [(11, 1, .aload_n 0, 0, 0, 0, []), (12, 1, .iload_n 2, 0, 2, 0, []), (13, 1, .iload_n 3, 0, 3, 0, []), (14, 3, .invokevirtual 93, 0, 54, 3, [(5,[])]), (17, 3, .ifCond .eq 13, 0, 0, 0, [(30,[false,false,false,false]), (20,[true,true,true,true])])]
def bX5_mark_20 : List AOp := [(20, 1, .iload_n 2, 0, 2, 0, []), (21, 1, .iconst 4, 4, 0, 0, []), (22, 3, .if_icmp .ne 10, 0, 0, 0, [(32,[true,true,true,true]), (25,[true,true,true,true])])]
def bX5_mark_25 : List AOp := [(25, 1, .iload_n 3, 0, 3, 0, []), (26, 1, .iload_n 1, 0, 1, 0, []), (27, 3, .if_icmp .ne 5, 0, 0, 0, [(32,[true,true,true,true]), (30,[false,false,false,false])])]
def bX5_mark_30 : List AOp := [(30, 1, .iconst 0, 0, 0, 0, []), (31, 1, .ireturn, 0, 0, 0, [])]
def bX5_mark_32 : List AOp := [(32, 1, .aload_n 0, 0, 0, 0, []), (33, 3, .getfield 30, 0, 5, 4, []), (36, 1, .iload_n 1, 0, 1, 0, []), (37, 1, .iload_n 2, 0, 2, 0, []), (38, 1, .iload_n 3, 0, 3, 0, []), (39, 3, .invokevirtual 97, 0, 3, 4, [(0,[])]), (42, 3, .ifCond .ne 5, 0, 0, 0, [(47,[true,false,false,false]), (45,[false,false,false,false])])]
def bX5_mark_45 : List AOp := [(45, 1, .iconst 0, 0, 0, 0, []), (46, 1, .ireturn, 0, 0, 0, [])]
def bX5_mark_47 : List AOp := [(47, 1, .aload_n 0, 0, 0, 0, []), (48, 1, .iconst 0, 0, 0, 0, []), (49, 3, .putfield 71, 1, 5, 12, []), (52, 1, .iconst 1, 1, 0, 0, []), (53, 1, .ireturn, 0, 0, 0, [])]
def blX5_mark : List (Nat × List AOp) := [(0, bX5_mark_0), (11, bX5_mark_11), (20, bX5_mark_20), (25, bX5_mark_25), (30, bX5_mark_30), (32, bX5_mark_32), (45, bX5_mark_45), (47, bX5_mark_47)]
def bX5_agree_0 : List AOp := [(0, 1, .aload_n 0, 0, 0, 0, []), (1, 1, .iload_n 1, 0, 1, 0, []), (2, 3, .invokevirtual 100, 0, 51, 2, [(5,[])]), (5, 3, .ifCond .ne 5, 0, 0, 0, [(10,[true,true]), (8,[false,false])])]
def bX5_agree_8 : List AOp := [(8, 1, .iconst (-1), (-1), 0, 0, []), (9, 1, .ireturn, 0, 0, 0, [])]
def bX5_agree_10 : List AOp := [(10, 1, .aload_n 0, 0, 0, 0, []), (11, 3, .invokevirtual 103, 0, 58, 1, [(5,[])]), (14, 1, .aload_n 0, 0, 0, 0, []), (15, 3, .getfield 37, 0, 5, 5, []), (18, 1, .iload_n 1, 0, 1, 0, []), (19, 3, .invokevirtual 106, 0, 15, 2, [(3,[])]), (22, 1, .iconst (-1), (-1), 0, 0, []), (23, 3, .if_icmp .ne 7, 0, 0, 0, [(30,[false,false]), (26,[false,false])])]
def bX5_agree_26 : List AOp := [(26, 1, .iconst 1, 1, 0, 0, []), (27, 3, .goto 4, 0, 0, 0, [(31,[false,false])])]
def bX5_agree_30 : List AOp := [(30, 1, .iconst 0, 0, 0, 0, []), (31, 0, .nop, 0, 0, 0, [(31,[false,false])])]
def bX5_agree_31 : List AOp := [(31, 1, .ireturn, 0, 0, 0, [])]
def blX5_agree : List (Nat × List AOp) := [(0, bX5_agree_0), (8, bX5_agree_8), (10, bX5_agree_10), (26, bX5_agree_26), (30, bX5_agree_30), (31, bX5_agree_31)]
def bX5_forged_0 : List AOp := [(0, 1, .aload_n 0, 0, 0, 0, []), (1, 3, .invokevirtual 103, 0, 58, 1, [(5,[])]), (4, 1, .aload_n 0, 0, 0, 0, []), (5, 3, .invokevirtual 110, 0, 53, 1, [(5,[])]), (8, 1, .ireturn, 0, 0, 0, [])]
def blX5_forged : List (Nat × List AOp) := [(0, bX5_forged_0)]
def bX5_weight_0 : List AOp := [(0, 1, .aload_n 0, 0, 0, 0, []), (1, 1, .iload_n 1, 0, 1, 0, []), (2, 3, .invokevirtual 100, 0, 51, 2, [(5,[])]), (5, 3, .ifCond .eq 14, 0, 0, 0, [(19,[false,false]), (8,[true,true])])]
def bX5_weight_8 : List AOp := [(8, 1, .aload_n 0, 0, 0, 0, []), (9, 3, .getfield 46, 0, 5, 6, []), (12, 1, .iload_n 1, 0, 1, 0, []), (13, 3, .invokevirtual 114, 0, 6, 2, [(1,[])]), (16, 3, .goto 4, 0, 0, 0, [(20,[false,false])])]
def bX5_weight_19 : List AOp := [(19, 1, .iconst (-1), (-1), 0, 0, []), (20, 0, .nop, 0, 0, 0, [(20,[false,false])])]
def bX5_weight_20 : List AOp := [(20, 1, .ireturn, 0, 0, 0, [])]
def blX5_weight : List (Nat × List AOp) := [(0, bX5_weight_0), (8, bX5_weight_8), (19, bX5_weight_19), (20, bX5_weight_20)]
def bX5_year_0 : List AOp := [(0, 1, .aload_n 0, 0, 0, 0, []), (1, 3, .getfield 24, 0, 5, 3, []), (4, 1, .iload_n 1, 0, 1, 0, []), (5, 3, .invokevirtual 89, 0, 10, 2, [(2,[])]), (8, 3, .ifCond .eq 12, 0, 0, 0, [(20,[false,false,false]), (11,[true,true,true])])]
def bX5_year_11 : List AOp := [(11, 1, .iload_n 2, 0, 2, 0, []), (12, 3, .ifCond .lt 8, 0, 0, 0, [(20,[false,false,false]), (15,[true,true,true])])]
def bX5_year_15 : List AOp := [(15, 1, .iload_n 2, 0, 2, 0, []), (16, 1, .iconst 1, 1, 0, 0, []), (17, 3, .if_icmp .le 5, 0, 0, 0, [(22,[true,true,true]), (20,[false,false,false])])]
def bX5_year_20 : List AOp := [(20, 1, .iconst (-1), (-1), 0, 0, []), (21, 1, .ireturn, 0, 0, 0, [])]
def bX5_year_22 : List AOp := [(22, 1, .aload_n 0, 0, 0, 0, []), (23, 3, .invokevirtual 103, 0, 58, 1, [(5,[])]), (26, 1, .aload_n 0, 0, 0, 0, []), (27, 1, .iload_n 1, 0, 1, 0, []), (28, 3, .invokevirtual 117, 0, 52, 2, [(5,[])]), (31, 3, .ifCond .ne 5, 0, 0, 0, [(36,[true,true,true]), (34,[false,false,false])])]
def bX5_year_34 : List AOp := [(34, 1, .iconst (-1), (-1), 0, 0, []), (35, 1, .ireturn, 0, 0, 0, [])]
def bX5_year_36 : List AOp := [(36, 1, .iload_n 2, 0, 2, 0, []), (37, 3, .ifCond .ne 15, 0, 0, 0, [(52,[true,true,false]), (40,[true,true,false])])]
def bX5_year_40 : List AOp := [(40, 1, .aload_n 0, 0, 0, 0, []), (41, 3, .getfield 37, 0, 5, 5, []), (44, 3, .getfield 120, 0, 3, 4, []), (47, 1, .iload_n 1, 0, 1, 0, []), (48, 1, .iaload, 0, 0, 0, []), (49, 3, .goto 12, 0, 0, 0, [(61,[false,false,false])])]
def bX5_year_52 : List AOp := [(52, 1, .aload_n 0, 0, 0, 0, []), (53, 3, .getfield 37, 0, 5, 5, []), (56, 3, .getfield 123, 0, 3, 5, []), (59, 1, .iload_n 1, 0, 1, 0, []), (60, 1, .iaload, 0, 0, 0, []), (61, 0, .nop, 0, 0, 0, [(61,[false,false,false])])]
def bX5_year_61 : List AOp := [(61, 1, .ireturn, 0, 0, 0, [])]
def blX5_year : List (Nat × List AOp) := [(0, bX5_year_0), (11, bX5_year_11), (15, bX5_year_15), (20, bX5_year_20), (22, bX5_year_22), (34, bX5_year_34), (36, bX5_year_36), (40, bX5_year_40), (52, bX5_year_52), (61, bX5_year_61)]
def bX5_quarrel_0 : List AOp := [(0, 1, .aload_n 0, 0, 0, 0, []), (1, 3, .invokevirtual 103, 0, 58, 1, [(5,[])]), (4, 1, .aload_n 0, 0, 0, 0, []), (5, 3, .getfield 37, 0, 5, 5, []), (8, 1, .aload_n 0, 0, 0, 0, []), (9, 3, .invokevirtual 126, 0, 50, 1, [(5,[])]), (12, 3, .invokevirtual 129, 0, 20, 2, [(3,[])]), (15, 1, .ireturn, 0, 0, 0, [])]
def blX5_quarrel : List (Nat × List AOp) := [(0, bX5_quarrel_0)]
def bX5_sure_0 : List AOp := [(0, 1, .aload_n 0, 0, 0, 0, []), (1, 3, .getfield 14, 0, 5, 0, []), (4, 1, .iload_n 1, 0, 1, 0, []), (5, 3, .invokevirtual 89, 0, 10, 2, [(2,[])]), (8, 3, .ifCond .eq 12, 0, 0, 0, [(20,[false,false,false,false,false,false]), (11,[true,true,true,false,false,false])])]
def bX5_sure_11 : List AOp := [(11, 1, .iload_n 2, 0, 2, 0, []), (12, 3, .ifCond .lt 8, 0, 0, 0, [(20,[false,false,false,false,false,false]), (15,[true,true,true,false,false,false])])]
def bX5_sure_15 : List AOp := [(15, 1, .iload_n 2, 0, 2, 0, []), (16, 1, .iconst 1, 1, 0, 0, []), (17, 3, .if_icmp .le 5, 0, 0, 0, [(22,[true,true,true,false,false,false]), (20,[false,false,false,false,false,false])])]
def bX5_sure_20 : List AOp := [(20, 1, .iconst (-1), (-1), 0, 0, []), (21, 1, .ireturn, 0, 0, 0, [])]
def bX5_sure_22 : List AOp := [(22, 1, .aload_n 0, 0, 0, 0, []), (23, 3, .invokevirtual 103, 0, 58, 1, [(5,[])]), (26, 3, .sipush 3000, 3000, 0, 0, []), (29, 1, .istore_n 3, 0, 3, 0, []), (30, 1, .iconst (-1), (-1), 0, 0, []), (31, 2, .istore 4, 0, 4, 0, []), (33, 1, .iconst 0, 0, 0, 0, []), (34, 2, .istore 5, 0, 5, 0, []), (36, 0, .nop, 0, 0, 0, [(36,[true,true,true,true,true,true])])]
def bX5_sure_36 : List AOp := [(36, 2, .iload 5, 0, 5, 0, []), (38, 2, .bipush 12, 12, 0, 0, []), (40, 3, .if_icmp .ge 67, 0, 0, 0, [(107,[false,false,true,true,true,false]), (43,[true,true,true,true,true,true])])]
def bX5_sure_43 : List AOp := [(43, 1, .aload_n 0, 0, 0, 0, []), (44, 2, .iload 5, 0, 5, 0, []), (46, 3, .invokevirtual 117, 0, 52, 2, [(5,[])]), (49, 3, .ifCond .eq 52, 0, 0, 0, [(101,[true,true,true,true,true,true]), (52,[true,true,true,true,true,true])])]
def bX5_sure_52 : List AOp := [(52, 1, .aload_n 0, 0, 0, 0, []), (53, 3, .getfield 30, 0, 5, 4, []), (56, 2, .iload 5, 0, 5, 0, []), (58, 1, .iconst 0, 0, 0, 0, []), (59, 3, .invokevirtual 132, 0, 1, 3, [(0,[])]), (62, 1, .iload_n 1, 0, 1, 0, []), (63, 3, .invokestatic 135, 0, 49, 2, []), (66, 3, .ifCond .eq 35, 0, 0, 0, [(101,[true,true,true,true,true,true]), (69,[true,true,true,true,true,true])])]
def bX5_sure_69 : List AOp := [(69, 1, .iload_n 3, 0, 3, 0, []), (70, 1, .aload_n 0, 0, 0, 0, []), (71, 3, .getfield 37, 0, 5, 5, []), (74, 3, .getfield 123, 0, 3, 5, []), (77, 2, .iload 5, 0, 5, 0, []), (79, 1, .iaload, 0, 0, 0, []), (80, 3, .invokestatic 138, 0, 0, 0, [(2,[])]), (83, 1, .istore_n 3, 0, 3, 0, []), (84, 2, .iload 4, 0, 4, 0, []), (86, 1, .aload_n 0, 0, 0, 0, []), (87, 3, .getfield 37, 0, 5, 5, []), (90, 3, .getfield 120, 0, 3, 4, []), (93, 2, .iload 5, 0, 5, 0, []), (95, 1, .iaload, 0, 0, 0, []), (96, 3, .invokestatic 143, 0, 0, 0, [(1,[])]), (99, 2, .istore 4, 0, 4, 0, []), (101, 0, .nop, 0, 0, 0, [(101,[true,true,true,true,true,true])])]
def bX5_sure_101 : List AOp := [(101, 3, .iinc 5 1, 1, 5, 0, []), (104, 3, .goto (-68), 0, 0, 0, [(36,[true,true,true,true,true,true])])]
def bX5_sure_107 : List AOp := [(107, 2, .iload 4, 0, 4, 0, []), (109, 1, .iload_n 3, 0, 3, 0, []), (110, 3, .if_icmp .ge 5, 0, 0, 0, [(115,[false,false,true,true,true,false]), (113,[false,false,false,false,false,false])])]
def bX5_sure_113 : List AOp := [(113, 1, .iconst (-1), (-1), 0, 0, []), (114, 1, .ireturn, 0, 0, 0, [])]
def bX5_sure_115 : List AOp := [(115, 1, .iload_n 2, 0, 2, 0, []), (116, 3, .ifCond .ne 7, 0, 0, 0, [(123,[false,false,false,false,true,false]), (119,[false,false,false,true,false,false])])]
def bX5_sure_119 : List AOp := [(119, 1, .iload_n 3, 0, 3, 0, []), (120, 3, .goto 5, 0, 0, 0, [(125,[false,false,false,false,false,false])])]
def bX5_sure_123 : List AOp := [(123, 2, .iload 4, 0, 4, 0, []), (125, 0, .nop, 0, 0, 0, [(125,[false,false,false,false,false,false])])]
def bX5_sure_125 : List AOp := [(125, 1, .ireturn, 0, 0, 0, [])]
def blX5_sure : List (Nat × List AOp) := [(0, bX5_sure_0), (11, bX5_sure_11), (15, bX5_sure_15), (20, bX5_sure_20), (22, bX5_sure_22), (36, bX5_sure_36), (43, bX5_sure_43), (52, bX5_sure_52), (69, bX5_sure_69), (101, bX5_sure_101), (107, bX5_sure_107), (113, bX5_sure_113), (115, bX5_sure_115), (119, bX5_sure_119), (123, bX5_sure_123), (125, bX5_sure_125)]
def bX5_feed_0 : List AOp := [(0, 1, .aload_n 0, 0, 0, 0, []), (1, 3, .getfield 53, 0, 5, 7, []), (4, 3, .getfield 146, 0, 4, 3, []), (7, 2, .bipush 20, 20, 0, 0, []), (9, 1, .iadd, 0, 0, 0, []), (10, 2, .bipush 40, 40, 0, 0, []), (12, 3, .if_icmp .le 5, 0, 0, 0, [(17,[true,true,true,true,true,true]), (15,[false,false,false,false,false,false])])]
def bX5_feed_15 : List AOp := [(15, 1, .iconst (-1), (-1), 0, 0, []), (16, 1, .ireturn, 0, 0, 0, [])]
def bX5_feed_17 : List AOp := [(17, 1, .aload_n 0, 0, 0, 0, []), (18, 3, .getfield 53, 0, 5, 7, []), (21, 1, .iload_n 1, 0, 1, 0, []), (22, 3, .invokevirtual 149, 0, 22, 2, [(4,[])]), (25, 1, .aload_n 0, 0, 0, 0, []), (26, 3, .getfield 53, 0, 5, 7, []), (29, 1, .iload_n 2, 0, 2, 0, []), (30, 3, .invokevirtual 149, 0, 22, 2, [(4,[])]), (33, 1, .aload_n 0, 0, 0, 0, []), (34, 3, .getfield 53, 0, 5, 7, []), (37, 1, .iload_n 3, 0, 3, 0, []), (38, 3, .invokevirtual 149, 0, 22, 2, [(4,[])]), (41, 1, .aload_n 0, 0, 0, 0, []), (42, 3, .getfield 53, 0, 5, 7, []), (45, 2, .iload 4, 0, 4, 0, []), (47, 3, .invokevirtual 149, 0, 22, 2, [(4,[])]), (50, 1, .aload_n 0, 0, 0, 0, []), (51, 3, .getfield 53, 0, 5, 7, []), (54, 2, .iload 5, 0, 5, 0, []), (56, 3, .invokevirtual 149, 0, 22, 2, [(4,[])]), (59, 1, .aload_n 0, 0, 0, 0, []), (60, 3, .getfield 53, 0, 5, 7, []), (63, 3, .getfield 146, 0, 4, 3, []), (66, 1, .ireturn, 0, 0, 0, [])]
def blX5_feed : List (Nat × List AOp) := [(0, bX5_feed_0), (15, bX5_feed_15), (17, bX5_feed_17)]
def bX5_words_0 : List AOp := [(0, 1, .aload_n 0, 0, 0, 0, []), (1, 3, .getfield 24, 0, 5, 3, []), (4, 1, .iload_n 1, 0, 1, 0, []), (5, 3, .invokevirtual 89, 0, 10, 2, [(2,[])]), (8, 3, .ifCond .eq 19, 0, 0, 0, [(27,[false,false,false]), (11,[true,true,true])])]
def bX5_words_11 : List AOp := [(11, 1, .aload_n 0, 0, 0, 0, []), (12, 3, .getfield 53, 0, 5, 7, []), (15, 1, .iload_n 1, 0, 1, 0, []), (16, 1, .iload_n 2, 0, 2, 0, []), (17, 3, .invokevirtual 152, 0, 23, 3, [(4,[])]), (20, 3, .ifCond .eq 7, 0, 0, 0, [(27,[false,false,false]), (23,[false,false,false])])]
def bX5_words_23 : List AOp := [(23, 1, .iconst 1, 1, 0, 0, []), (24, 3, .goto 4, 0, 0, 0, [(28,[false,false,false])])]
def bX5_words_27 : List AOp := [(27, 1, .iconst 0, 0, 0, 0, []), (28, 0, .nop, 0, 0, 0, [(28,[false,false,false])])]
def bX5_words_28 : List AOp := [(28, 1, .ireturn, 0, 0, 0, [])]
def blX5_words : List (Nat × List AOp) := [(0, bX5_words_0), (11, bX5_words_11), (23, bX5_words_23), (27, bX5_words_27), (28, bX5_words_28)]
def bX5_model_0 : List AOp := [(0, 1, .aload_n 0, 0, 0, 0, []), (1, 3, .getfield 24, 0, 5, 3, []), (4, 1, .iload_n 1, 0, 1, 0, []), (5, 3, .invokevirtual 89, 0, 10, 2, [(2,[])]), (8, 3, .ifCond .eq 12, 0, 0, 0, [(20,[false,false,false]), (11,[true,true,true])])]
def bX5_model_11 : List AOp := [(11, 1, .iload_n 2, 0, 2, 0, []), (12, 3, .ifCond .lt 8, 0, 0, 0, [(20,[false,false,false]), (15,[true,true,true])])]
def bX5_model_15 : List AOp := [(15, 1, .iload_n 2, 0, 2, 0, []), (16, 1, .iconst 3, 3, 0, 0, []), (17, 3, .if_icmp .le 5, 0, 0, 0, [(22,[true,true,true]), (20,[false,false,false])])]
def bX5_model_20 : List AOp := [(20, 1, .iconst (-1), (-1), 0, 0, []), (21, 1, .ireturn, 0, 0, 0, [])]
def bX5_model_22 : List AOp := [(22, 1, .aload_n 0, 0, 0, 0, []), (23, 3, .getfield 53, 0, 5, 7, []), (26, 1, .iload_n 1, 0, 1, 0, []), (27, 3, .invokevirtual 155, 0, 24, 2, [(4,[])]), (30, 1, .aload_n 0, 0, 0, 0, []), (31, 3, .getfield 53, 0, 5, 7, []), (34, 3, .getfield 158, 0, 4, 4, []), (37, 1, .iconst (-1), (-1), 0, 0, []), (38, 3, .if_icmp .ne 5, 0, 0, 0, [(43,[true,false,true]), (41,[false,false,false])])]
def bX5_model_41 : List AOp := [(41, 1, .iconst (-1), (-1), 0, 0, []), (42, 1, .ireturn, 0, 0, 0, [])]
def bX5_model_43 : List AOp := [(43, 1, .iload_n 2, 0, 2, 0, []), (44, 28, .tableswitch 52 0 2 #[28, 36, 44], 0, 0, 0, [(72,[true,false,false]), (80,[true,false,false]), (88,[true,false,false]), (96,[true,false,false])])]
def bX5_model_72 : List AOp := [(72, 1, .aload_n 0, 0, 0, 0, []), (73, 3, .getfield 53, 0, 5, 7, []), (76, 3, .getfield 158, 0, 4, 4, []), (79, 1, .ireturn, 0, 0, 0, [])]
def bX5_model_80 : List AOp := [(80, 1, .aload_n 0, 0, 0, 0, []), (81, 3, .getfield 53, 0, 5, 7, []), (84, 3, .getfield 161, 0, 4, 5, []), (87, 1, .ireturn, 0, 0, 0, [])]
def bX5_model_88 : List AOp := [(88, 1, .aload_n 0, 0, 0, 0, []), (89, 3, .getfield 53, 0, 5, 7, []), (92, 3, .getfield 164, 0, 4, 6, []), (95, 1, .ireturn, 0, 0, 0, [])]
def bX5_model_96 : List AOp := [(96, 1, .aload_n 0, 0, 0, 0, []), (97, 3, .getfield 53, 0, 5, 7, []), (100, 3, .getfield 167, 0, 4, 7, []), (103, 1, .ireturn, 0, 0, 0, [])]
def blX5_model : List (Nat × List AOp) := [(0, bX5_model_0), (11, bX5_model_11), (15, bX5_model_15), (20, bX5_model_20), (22, bX5_model_22), (41, bX5_model_41), (43, bX5_model_43), (72, bX5_model_72), (80, bX5_model_80), (88, bX5_model_88), (96, bX5_model_96)]
def bX5_claim_0 : List AOp := [(0, 1, .aload_n 0, 0, 0, 0, []), (1, 3, .getfield 24, 0, 5, 3, []), (4, 1, .iload_n 1, 0, 1, 0, []), (5, 3, .invokevirtual 89, 0, 10, 2, [(2,[])]), (8, 3, .ifCond .eq 23, 0, 0, 0, [(31,[false,false,false,false]), (11,[true,true,true,true])])]
def bX5_claim_11 : List AOp := [(11, 1, .iload_n 2, 0, 2, 0, []), (12, 3, .ifCond .lt 19, 0, 0, 0, [(31,[false,false,false,false]), (15,[true,true,true,true])])]
def bX5_claim_15 : List AOp := [(15, 1, .iload_n 2, 0, 2, 0, []), (16, 1, .iconst 4, 4, 0, 0, []), (17, 3, .if_icmp .ge 14, 0, 0, 0, [(31,[false,false,false,false]), (20,[true,true,true,true])])]
def bX5_claim_20 : List AOp := [(20, 1, .iload_n 3, 0, 3, 0, []), (21, 3, .ifCond .lt 10, 0, 0, 0, [(31,[false,false,false,false]), (24,[true,true,true,true])])]
def bX5_claim_24 : List AOp := [(24, 1, .iload_n 3, 0, 3, 0, []), (25, 3, .sipush 1023, 1023, 0, 0, []), (28, 3, .if_icmp .le 5, 0, 0, 0, [(33,[true,true,true,true]), (31,[false,false,false,false])])]
def bX5_claim_31 : List AOp := [(31, 1, .iconst 0, 0, 0, 0, []), (32, 1, .ireturn, 0, 0, 0, [])]
def bX5_claim_33 : List AOp := [(33, 1, .aload_n 0, 0, 0, 0, []), (34, 3, .getfield 57, 0, 5, 8, []), (37, 1, .iload_n 1, 0, 1, 0, []), (38, 1, .iload_n 2, 0, 2, 0, []), (39, 1, .iastore, 0, 0, 0, []), (40, 1, .aload_n 0, 0, 0, 0, []), (41, 3, .getfield 61, 0, 5, 9, []), (44, 1, .iload_n 1, 0, 1, 0, []), (45, 1, .iload_n 3, 0, 3, 0, []), (46, 1, .iastore, 0, 0, 0, []), (47, 1, .iconst 1, 1, 0, 0, []), (48, 1, .ireturn, 0, 0, 0, [])]
def blX5_claim : List (Nat × List AOp) := [(0, bX5_claim_0), (11, bX5_claim_11), (15, bX5_claim_15), (20, bX5_claim_20), (24, bX5_claim_24), (31, bX5_claim_31), (33, bX5_claim_33)]
def bX5_clash_0 : List AOp := [(0, 1, .iload_n 1, 0, 1, 0, []), (1, 3, .ifCond .lt 12, 0, 0, 0, [(13,[false,false,false,false,false,false,false]), (4,[true,true,true,false,false,false,false])])]
def bX5_clash_4 : List AOp := [(4, 1, .iload_n 2, 0, 2, 0, []), (5, 3, .ifCond .lt 8, 0, 0, 0, [(13,[false,false,false,false,false,false,false]), (8,[true,true,true,false,false,false,false])])]
def bX5_clash_8 : List AOp := [(8, 1, .iload_n 2, 0, 2, 0, []), (9, 1, .iconst 2, 2, 0, 0, []), (10, 3, .if_icmp .le 5, 0, 0, 0, [(15,[true,true,true,false,false,false,false]), (13,[false,false,false,false,false,false,false])])]
def bX5_clash_13 : List AOp := [(13, 1, .iconst (-1), (-1), 0, 0, []), (14, 1, .ireturn, 0, 0, 0, [])]
def bX5_clash_15 : List AOp := [(15, 1, .aload_n 0, 0, 0, 0, []), (16, 3, .invokevirtual 103, 0, 58, 1, [(5,[])]), (19, 1, .iload_n 1, 0, 1, 0, []), (20, 1, .istore_n 3, 0, 3, 0, []), (21, 1, .iconst 0, 0, 0, 0, []), (22, 2, .istore 4, 0, 4, 0, []), (24, 0, .nop, 0, 0, 0, [(24,[true,false,true,true,true,false,false])])]
def bX5_clash_24 : List AOp := [(24, 2, .iload 4, 0, 4, 0, []), (26, 2, .bipush 12, 12, 0, 0, []), (28, 3, .if_icmp .ge 77, 0, 0, 0, [(105,[false,false,false,false,false,false,false]), (31,[true,false,true,true,true,false,false])])]
def bX5_clash_31 : List AOp := [(31, 2, .iload 4, 0, 4, 0, []), (33, 1, .iconst 1, 1, 0, 0, []), (34, 1, .iadd, 0, 0, 0, []), (35, 2, .istore 5, 0, 5, 0, []), (37, 0, .nop, 0, 0, 0, [(37,[true,false,true,true,true,true,false])])]
def bX5_clash_37 : List AOp := [(37, 2, .iload 5, 0, 5, 0, []), (39, 2, .bipush 12, 12, 0, 0, []), (41, 3, .if_icmp .ge 58, 0, 0, 0, [(99,[true,false,true,true,true,false,false]), (44,[true,false,true,true,true,true,false])])]
def bX5_clash_44 : List AOp := [(44, 1, .aload_n 0, 0, 0, 0, []), (45, 2, .iload 4, 0, 4, 0, []), (47, 2, .iload 5, 0, 5, 0, []), (49, 3, .invokevirtual 170, 0, 59, 3, [(5,[])]), (52, 2, .istore 6, 0, 6, 0, []), (54, 2, .iload 6, 0, 6, 0, []), (56, 3, .ifCond .eq 29, 0, 0, 0, [(85,[true,false,true,true,true,true,true]), (59,[true,false,true,true,true,true,true])])]
def bX5_clash_59 : List AOp := [(59, 1, .iload_n 3, 0, 3, 0, []), (60, 3, .ifCond .ne 25, 0, 0, 0, [(85,[true,false,true,true,true,true,true]), (63,[false,false,true,false,true,true,true])])]
def bX5_clash_63 : List AOp := [(63, 1, .iload_n 2, 0, 2, 0, []), (64, 3, .ifCond .ne 8, 0, 0, 0, [(72,[false,false,true,false,false,true,true]), (67,[false,false,false,false,true,false,false])])]
def bX5_clash_67 : List AOp := [(67, 2, .iload 4, 0, 4, 0, []), (69, 3, .goto 15, 0, 0, 0, [(84,[false,false,false,false,false,false,false])])]
def bX5_clash_72 : List AOp := [(72, 1, .iload_n 2, 0, 2, 0, []), (73, 1, .iconst 1, 1, 0, 0, []), (74, 3, .if_icmp .ne 8, 0, 0, 0, [(82,[false,false,false,false,false,false,true]), (77,[false,false,false,false,false,true,false])])]
def bX5_clash_77 : List AOp := [(77, 2, .iload 5, 0, 5, 0, []), (79, 3, .goto 5, 0, 0, 0, [(84,[false,false,false,false,false,false,false])])]
def bX5_clash_82 : List AOp := [(82, 2, .iload 6, 0, 6, 0, []), (84, 0, .nop, 0, 0, 0, [(84,[false,false,false,false,false,false,false])])]
def bX5_clash_84 : List AOp := [(84, 1, .ireturn, 0, 0, 0, [])]
def bX5_clash_85 : List AOp := [(85, 2, .iload 6, 0, 6, 0, []), (87, 3, .ifCond .eq 6, 0, 0, 0, [(93,[true,false,true,true,true,true,false]), (90,[true,false,true,true,true,true,false])])]
def bX5_clash_90 : List AOp := [(90, 3, .iinc 3 (-1), (-1), 3, 0, []), (93, 0, .nop, 0, 0, 0, [(93,[true,false,true,true,true,true,false])])]
def bX5_clash_93 : List AOp := [(93, 3, .iinc 5 1, 1, 5, 0, []), (96, 3, .goto (-59), 0, 0, 0, [(37,[true,false,true,true,true,true,false])])]
def bX5_clash_99 : List AOp := [(99, 3, .iinc 4 1, 1, 4, 0, []), (102, 3, .goto (-78), 0, 0, 0, [(24,[true,false,true,true,true,false,false])])]
def bX5_clash_105 : List AOp := [(105, 1, .iconst (-1), (-1), 0, 0, []), (106, 1, .ireturn, 0, 0, 0, [])]
def blX5_clash : List (Nat × List AOp) := [(0, bX5_clash_0), (4, bX5_clash_4), (8, bX5_clash_8), (13, bX5_clash_13), (15, bX5_clash_15), (24, bX5_clash_24), (31, bX5_clash_31), (37, bX5_clash_37), (44, bX5_clash_44), (59, bX5_clash_59), (63, bX5_clash_63), (67, bX5_clash_67), (72, bX5_clash_72), (77, bX5_clash_77), (82, bX5_clash_82), (84, bX5_clash_84), (85, bX5_clash_85), (90, bX5_clash_90), (93, bX5_clash_93), (99, bX5_clash_99), (105, bX5_clash_105)]
def bX5_court_0 : List AOp := [(0, 1, .aload_n 0, 0, 0, 0, []), (1, 3, .getfield 24, 0, 5, 3, []), (4, 1, .iload_n 1, 0, 1, 0, []), (5, 3, .invokevirtual 89, 0, 10, 2, [(2,[])]), (8, 3, .ifCond .eq 12, 0, 0, 0, [(20,[false,false,false]), (11,[true,true,true])])]
def bX5_court_11 : List AOp := [(11, 1, .iload_n 2, 0, 2, 0, []), (12, 3, .ifCond .lt 8, 0, 0, 0, [(20,[false,false,false]), (15,[true,true,true])])]
def bX5_court_15 : List AOp := [(15, 1, .iload_n 2, 0, 2, 0, []), (16, 1, .iconst 2, 2, 0, 0, []), (17, 3, .if_icmp .le 5, 0, 0, 0, [(22,[true,true,true]), (20,[false,false,false])])]
def bX5_court_20 : List AOp := [(20, 1, .iconst 0, 0, 0, 0, []), (21, 1, .ireturn, 0, 0, 0, [])]
def bX5_court_22 : List AOp := [(22, 1, .aload_n 0, 0, 0, 0, []), (23, 3, .getfield 64, 0, 5, 10, []), (26, 1, .iload_n 1, 0, 1, 0, []), (27, 1, .iload_n 2, 0, 2, 0, []), (28, 1, .iastore, 0, 0, 0, []), (29, 1, .iconst 1, 1, 0, 0, []), (30, 1, .ireturn, 0, 0, 0, [])]
def blX5_court : List (Nat × List AOp) := [(0, bX5_court_0), (11, bX5_court_11), (15, bX5_court_15), (20, bX5_court_20), (22, bX5_court_22)]
def bX5_otherwise_0 : List AOp := [(0, 1, .iload_n 1, 0, 1, 0, []), (1, 3, .ifCond .ge 5, 0, 0, 0, [(6,[true,true,false,false]), (4,[false,false,false,false])])]
def bX5_otherwise_4 : List AOp := [(4, 1, .iconst (-1), (-1), 0, 0, []), (5, 1, .ireturn, 0, 0, 0, [])]
def bX5_otherwise_6 : List AOp := [(6, 1, .aload_n 0, 0, 0, 0, []), (7, 3, .invokevirtual 103, 0, 58, 1, [(5,[])]), (10, 1, .iload_n 1, 0, 1, 0, []), (11, 1, .istore_n 2, 0, 2, 0, []), (12, 1, .iconst 0, 0, 0, 0, []), (13, 1, .istore_n 3, 0, 3, 0, []), (14, 0, .nop, 0, 0, 0, [(14,[true,false,true,true])])]
def bX5_otherwise_14 : List AOp := [(14, 1, .iload_n 3, 0, 3, 0, []), (15, 2, .bipush 12, 12, 0, 0, []), (17, 3, .if_icmp .ge 26, 0, 0, 0, [(43,[false,false,false,false]), (20,[true,false,true,true])])]
def bX5_otherwise_20 : List AOp := [(20, 1, .aload_n 0, 0, 0, 0, []), (21, 1, .iload_n 3, 0, 3, 0, []), (22, 3, .invokevirtual 173, 0, 61, 2, [(5,[])]), (25, 3, .ifCond .eq 12, 0, 0, 0, [(37,[true,false,true,true]), (28,[true,false,true,true])])]
def bX5_otherwise_28 : List AOp := [(28, 1, .iload_n 2, 0, 2, 0, []), (29, 3, .ifCond .ne 5, 0, 0, 0, [(34,[true,false,true,true]), (32,[false,false,false,true])])]
def bX5_otherwise_32 : List AOp := [(32, 1, .iload_n 3, 0, 3, 0, []), (33, 1, .ireturn, 0, 0, 0, [])]
def bX5_otherwise_34 : List AOp := [(34, 3, .iinc 2 (-1), (-1), 2, 0, []), (37, 0, .nop, 0, 0, 0, [(37,[true,false,true,true])])]
def bX5_otherwise_37 : List AOp := [(37, 3, .iinc 3 1, 1, 3, 0, []), (40, 3, .goto (-26), 0, 0, 0, [(14,[true,false,true,true])])]
def bX5_otherwise_43 : List AOp := [(43, 1, .iconst (-1), (-1), 0, 0, []), (44, 1, .ireturn, 0, 0, 0, [])]
def blX5_otherwise : List (Nat × List AOp) := [(0, bX5_otherwise_0), (4, bX5_otherwise_4), (6, bX5_otherwise_6), (14, bX5_otherwise_14), (20, bX5_otherwise_20), (28, bX5_otherwise_28), (32, bX5_otherwise_32), (34, bX5_otherwise_34), (37, bX5_otherwise_37), (43, bX5_otherwise_43)]
def bX5_look_0 : List AOp := [(0, 1, .aload_n 0, 0, 0, 0, []), (1, 3, .getfield 24, 0, 5, 3, []), (4, 1, .iload_n 1, 0, 1, 0, []), (5, 3, .invokevirtual 89, 0, 10, 2, [(2,[])]), (8, 3, .ifCond .ne 5, 0, 0, 0, [(13,[true,true,true]), (11,[false,false,false])])]
def bX5_look_11 : List AOp := [(11, 1, .iconst (-1), (-1), 0, 0, []), (12, 1, .ireturn, 0, 0, 0, [])]
def bX5_look_13 : List AOp := [(13, 1, .iload_n 2, 0, 2, 0, []), (14, 54, .tableswitch 160 0 9 #[54, 64, 74, 84, 93, 100, 110, 117, 124, 142], 0, 0, 0, [(68,[true,true,false]), (78,[true,true,false]), (88,[true,true,false]), (98,[true,true,false]), (107,[true,true,false]), (114,[true,true,false]), (124,[true,true,false]), (131,[true,true,false]), (138,[true,true,false]), (156,[true,true,false]), (174,[false,false,false])])]
def bX5_look_68 : List AOp := [(68, 1, .aload_n 0, 0, 0, 0, []), (69, 3, .getfield 24, 0, 5, 3, []), (72, 3, .getfield 176, 0, 2, 0, []), (75, 1, .iload_n 1, 0, 1, 0, []), (76, 1, .iaload, 0, 0, 0, []), (77, 1, .ireturn, 0, 0, 0, [])]
def bX5_look_78 : List AOp := [(78, 1, .aload_n 0, 0, 0, 0, []), (79, 3, .getfield 24, 0, 5, 3, []), (82, 3, .getfield 179, 0, 2, 1, []), (85, 1, .iload_n 1, 0, 1, 0, []), (86, 1, .iaload, 0, 0, 0, []), (87, 1, .ireturn, 0, 0, 0, [])]
def bX5_look_88 : List AOp := [(88, 1, .aload_n 0, 0, 0, 0, []), (89, 3, .getfield 46, 0, 5, 6, []), (92, 3, .getfield 86, 0, 1, 1, []), (95, 1, .iload_n 1, 0, 1, 0, []), (96, 1, .iaload, 0, 0, 0, []), (97, 1, .ireturn, 0, 0, 0, [])]
def bX5_look_98 : List AOp := [(98, 1, .aload_n 0, 0, 0, 0, []), (99, 3, .getfield 30, 0, 5, 4, []), (102, 1, .iload_n 1, 0, 1, 0, []), (103, 3, .invokevirtual 182, 0, 2, 2, [(0,[])]), (106, 1, .ireturn, 0, 0, 0, [])]
def bX5_look_107 : List AOp := [(107, 1, .aload_n 0, 0, 0, 0, []), (108, 3, .getfield 64, 0, 5, 10, []), (111, 1, .iload_n 1, 0, 1, 0, []), (112, 1, .iaload, 0, 0, 0, []), (113, 1, .ireturn, 0, 0, 0, [])]
def bX5_look_114 : List AOp := [(114, 1, .aload_n 0, 0, 0, 0, []), (115, 3, .getfield 53, 0, 5, 7, []), (118, 3, .getfield 185, 0, 4, 2, []), (121, 1, .iload_n 1, 0, 1, 0, []), (122, 1, .iaload, 0, 0, 0, []), (123, 1, .ireturn, 0, 0, 0, [])]
def bX5_look_124 : List AOp := [(124, 1, .aload_n 0, 0, 0, 0, []), (125, 3, .getfield 57, 0, 5, 8, []), (128, 1, .iload_n 1, 0, 1, 0, []), (129, 1, .iaload, 0, 0, 0, []), (130, 1, .ireturn, 0, 0, 0, [])]
def bX5_look_131 : List AOp := [(131, 1, .aload_n 0, 0, 0, 0, []), (132, 3, .getfield 61, 0, 5, 9, []), (135, 1, .iload_n 1, 0, 1, 0, []), (136, 1, .iaload, 0, 0, 0, []), (137, 1, .ireturn, 0, 0, 0, [])]
def bX5_look_138 : List AOp := [(138, 1, .aload_n 0, 0, 0, 0, []), (139, 1, .iload_n 1, 0, 1, 0, []), (140, 3, .invokevirtual 188, 0, 57, 2, [(5,[])]), (143, 3, .ifCond .eq 11, 0, 0, 0, [(154,[false,false,false]), (146,[true,true,false])])]
def bX5_look_146 : List AOp := [(146, 1, .aload_n 0, 0, 0, 0, []), (147, 1, .iload_n 1, 0, 1, 0, []), (148, 3, .invokevirtual 191, 0, 55, 2, [(5,[])]), (151, 3, .goto 4, 0, 0, 0, [(155,[false,false,false])])]
def bX5_look_154 : List AOp := [(154, 1, .iconst (-1), (-1), 0, 0, []), (155, 0, .nop, 0, 0, 0, [(155,[false,false,false])])]
def bX5_look_155 : List AOp := [(155, 1, .ireturn, 0, 0, 0, [])]
def bX5_look_156 : List AOp := [(156, 1, .aload_n 0, 0, 0, 0, []), (157, 1, .iload_n 1, 0, 1, 0, []), (158, 3, .invokevirtual 188, 0, 57, 2, [(5,[])]), (161, 3, .ifCond .eq 11, 0, 0, 0, [(172,[false,false,false]), (164,[true,true,false])])]
def bX5_look_164 : List AOp := [(164, 1, .aload_n 0, 0, 0, 0, []), (165, 1, .iload_n 1, 0, 1, 0, []), (166, 3, .invokevirtual 194, 0, 56, 2, [(5,[])]), (169, 3, .goto 4, 0, 0, 0, [(173,[false,false,false])])]
def bX5_look_172 : List AOp := [(172, 1, .iconst (-1), (-1), 0, 0, []), (173, 0, .nop, 0, 0, 0, [(173,[false,false,false])])]
def bX5_look_173 : List AOp := [(173, 1, .ireturn, 0, 0, 0, [])]
def bX5_look_174 : List AOp := [(174, 1, .iconst (-1), (-1), 0, 0, []), (175, 1, .ireturn, 0, 0, 0, [])]
def blX5_look : List (Nat × List AOp) := [(0, bX5_look_0), (11, bX5_look_11), (13, bX5_look_13), (68, bX5_look_68), (78, bX5_look_78), (88, bX5_look_88), (98, bX5_look_98), (107, bX5_look_107), (114, bX5_look_114), (124, bX5_look_124), (131, bX5_look_131), (138, bX5_look_138), (146, bX5_look_146), (154, bX5_look_154), (155, bX5_look_155), (156, bX5_look_156), (164, bX5_look_164), (172, bX5_look_172), (173, bX5_look_173), (174, bX5_look_174)]
def bX5_count_0 : List AOp := [(0, 1, .iload_n 1, 0, 1, 0, []), (1, 47, .tableswitch 116 0 7 #[47, 55, 63, 71, 79, 87, 99, 107], 0, 0, 0, [(48,[true,false]), (56,[true,false]), (64,[true,false]), (72,[true,false]), (80,[true,false]), (88,[true,false]), (100,[true,false]), (108,[true,false]), (117,[false,false])])]
def bX5_count_48 : List AOp := [(48, 1, .aload_n 0, 0, 0, 0, []), (49, 3, .getfield 14, 0, 5, 0, []), (52, 3, .getfield 197, 0, 2, 2, []), (55, 1, .ireturn, 0, 0, 0, [])]
def bX5_count_56 : List AOp := [(56, 1, .aload_n 0, 0, 0, 0, []), (57, 3, .getfield 18, 0, 5, 1, []), (60, 3, .getfield 197, 0, 2, 2, []), (63, 1, .ireturn, 0, 0, 0, [])]
def bX5_count_64 : List AOp := [(64, 1, .aload_n 0, 0, 0, 0, []), (65, 3, .getfield 21, 0, 5, 2, []), (68, 3, .getfield 197, 0, 2, 2, []), (71, 1, .ireturn, 0, 0, 0, [])]
def bX5_count_72 : List AOp := [(72, 1, .aload_n 0, 0, 0, 0, []), (73, 3, .getfield 24, 0, 5, 3, []), (76, 3, .getfield 197, 0, 2, 2, []), (79, 1, .ireturn, 0, 0, 0, [])]
def bX5_count_80 : List AOp := [(80, 1, .aload_n 0, 0, 0, 0, []), (81, 3, .getfield 37, 0, 5, 5, []), (84, 3, .getfield 83, 0, 3, 9, []), (87, 1, .ireturn, 0, 0, 0, [])]
def bX5_count_88 : List AOp := [(88, 1, .aload_n 0, 0, 0, 0, []), (89, 3, .invokevirtual 103, 0, 58, 1, [(5,[])]), (92, 1, .aload_n 0, 0, 0, 0, []), (93, 3, .invokevirtual 110, 0, 53, 1, [(5,[])]), (96, 3, .invokestatic 200, 0, 104, 1, []), (99, 1, .ireturn, 0, 0, 0, [])]
def bX5_count_100 : List AOp := [(100, 1, .aload_n 0, 0, 0, 0, []), (101, 3, .getfield 53, 0, 5, 7, []), (104, 3, .getfield 146, 0, 4, 3, []), (107, 1, .ireturn, 0, 0, 0, [])]
def bX5_count_108 : List AOp := [(108, 1, .aload_n 0, 0, 0, 0, []), (109, 3, .invokevirtual 103, 0, 58, 1, [(5,[])]), (112, 1, .aload_n 0, 0, 0, 0, []), (113, 3, .invokevirtual 205, 0, 60, 1, [(5,[])]), (116, 1, .ireturn, 0, 0, 0, [])]
def bX5_count_117 : List AOp := [(117, 1, .iconst (-1), (-1), 0, 0, []), (118, 1, .ireturn, 0, 0, 0, [])]
def blX5_count : List (Nat × List AOp) := [(0, bX5_count_0), (48, bX5_count_48), (56, bX5_count_56), (64, bX5_count_64), (72, bX5_count_72), (80, bX5_count_80), (88, bX5_count_88), (100, bX5_count_100), (108, bX5_count_108), (117, bX5_count_117)]
def bX5_holds_0 : List AOp := [(0, 1, .iload_n 0, 0, 0, 0, []), (1, 1, .iload_n 1, 0, 1, 0, []), (2, 1, .ishr, 0, 0, 0, []), (3, 1, .iconst 1, 1, 0, 0, []), (4, 1, .iand, 0, 0, 0, []), (5, 3, .ifCond .eq 7, 0, 0, 0, [(12,[false,false]), (8,[false,false])])]
def bX5_holds_8 : List AOp := [(8, 1, .iconst 1, 1, 0, 0, []), (9, 3, .goto 4, 0, 0, 0, [(13,[false,false])])]
def bX5_holds_12 : List AOp := [(12, 1, .iconst 0, 0, 0, 0, []), (13, 0, .nop, 0, 0, 0, [(13,[false,false])])]
def bX5_holds_13 : List AOp := [(13, 1, .ireturn, 0, 0, 0, [])]
def blX5_holds : List (Nat × List AOp) := [(0, bX5_holds_0), (8, bX5_holds_8), (12, bX5_holds_12), (13, bX5_holds_13)]
def bX5_allDeeds_0 : List AOp := [(0, 1, .iconst 1, 1, 0, 0, []), (1, 1, .aload_n 0, 0, 0, 0, []), (2, 3, .getfield 24, 0, 5, 3, []), (5, 3, .getfield 197, 0, 2, 2, []), (8, 1, .ishl, 0, 0, 0, []), (9, 1, .iconst 1, 1, 0, 0, []), (10, 1, .isub, 0, 0, 0, []), (11, 1, .ireturn, 0, 0, 0, [])]
def blX5_allDeeds : List (Nat × List AOp) := [(0, bX5_allDeeds_0)]
def bX5_areDeeds_0 : List AOp := [(0, 1, .iload_n 1, 0, 1, 0, []), (1, 1, .aload_n 0, 0, 0, 0, []), (2, 3, .invokevirtual 126, 0, 50, 1, [(5,[])]), (5, 1, .iconst (-1), (-1), 0, 0, []), (6, 1, .ixor, 0, 0, 0, []), (7, 1, .iand, 0, 0, 0, []), (8, 3, .ifCond .ne 7, 0, 0, 0, [(15,[false,false]), (11,[false,false])])]
def bX5_areDeeds_11 : List AOp := [(11, 1, .iconst 1, 1, 0, 0, []), (12, 3, .goto 4, 0, 0, 0, [(16,[false,false])])]
def bX5_areDeeds_15 : List AOp := [(15, 1, .iconst 0, 0, 0, 0, []), (16, 0, .nop, 0, 0, 0, [(16,[false,false])])]
def bX5_areDeeds_16 : List AOp := [(16, 1, .ireturn, 0, 0, 0, [])]
def blX5_areDeeds : List (Nat × List AOp) := [(0, bX5_areDeeds_0), (11, bX5_areDeeds_11), (15, bX5_areDeeds_15), (16, bX5_areDeeds_16)]
def bX5_isTrue_0 : List AOp := [(0, 1, .aload_n 0, 0, 0, 0, []), (1, 3, .getfield 67, 0, 5, 11, []), (4, 1, .iload_n 1, 0, 1, 0, []), (5, 3, .invokestatic 135, 0, 49, 2, []), (8, 1, .ireturn, 0, 0, 0, [])]
def blX5_isTrue : List (Nat × List AOp) := [(0, bX5_isTrue_0)]
def bX5_forgedOnes_0 : List AOp := [(0, 1, .aload_n 0, 0, 0, 0, []), (1, 3, .invokevirtual 126, 0, 50, 1, [(5,[])]), (4, 1, .aload_n 0, 0, 0, 0, []), (5, 3, .getfield 67, 0, 5, 11, []), (8, 1, .iconst (-1), (-1), 0, 0, []), (9, 1, .ixor, 0, 0, 0, []), (10, 1, .iand, 0, 0, 0, []), (11, 1, .ireturn, 0, 0, 0, [])]
def blX5_forgedOnes : List (Nat × List AOp) := [(0, bX5_forgedOnes_0)]
def bX5_canBeMarked_0 : List AOp := [(0, 1, .iload_n 1, 0, 1, 0, []), (1, 35, .tableswitch 87 0 4 #[35, 44, 53, 62, 78], 0, 0, 0, [(36,[true,false,true]), (45,[true,false,true]), (54,[true,false,true]), (63,[false,false,true]), (79,[true,false,true]), (88,[false,false,false])])]
def bX5_canBeMarked_36 : List AOp := [(36, 1, .aload_n 0, 0, 0, 0, []), (37, 3, .getfield 14, 0, 5, 0, []), (40, 1, .iload_n 2, 0, 2, 0, []), (41, 3, .invokevirtual 89, 0, 10, 2, [(2,[])]), (44, 1, .ireturn, 0, 0, 0, [])]
def bX5_canBeMarked_45 : List AOp := [(45, 1, .aload_n 0, 0, 0, 0, []), (46, 3, .getfield 18, 0, 5, 1, []), (49, 1, .iload_n 2, 0, 2, 0, []), (50, 3, .invokevirtual 89, 0, 10, 2, [(2,[])]), (53, 1, .ireturn, 0, 0, 0, [])]
def bX5_canBeMarked_54 : List AOp := [(54, 1, .aload_n 0, 0, 0, 0, []), (55, 3, .getfield 21, 0, 5, 2, []), (58, 1, .iload_n 2, 0, 2, 0, []), (59, 3, .invokevirtual 89, 0, 10, 2, [(2,[])]), (62, 1, .ireturn, 0, 0, 0, [])]
def bX5_canBeMarked_63 : List AOp := [(63, 1, .iload_n 2, 0, 2, 0, []), (64, 3, .ifCond .lt 13, 0, 0, 0, [(77,[false,false,false]), (67,[false,false,true])])]
def bX5_canBeMarked_67 : List AOp := [(67, 1, .iload_n 2, 0, 2, 0, []), (68, 2, .bipush 8, 8, 0, 0, []), (70, 3, .if_icmp .ge 7, 0, 0, 0, [(77,[false,false,false]), (73,[false,false,false])])]
def bX5_canBeMarked_73 : List AOp := [(73, 1, .iconst 1, 1, 0, 0, []), (74, 3, .goto 4, 0, 0, 0, [(78,[false,false,false])])]
def bX5_canBeMarked_77 : List AOp := [(77, 1, .iconst 0, 0, 0, 0, []), (78, 0, .nop, 0, 0, 0, [(78,[false,false,false])])]
def bX5_canBeMarked_78 : List AOp := [(78, 1, .ireturn, 0, 0, 0, [])]
def bX5_canBeMarked_79 : List AOp := [(79, 1, .aload_n 0, 0, 0, 0, []), (80, 3, .getfield 24, 0, 5, 3, []), (83, 1, .iload_n 2, 0, 2, 0, []), (84, 3, .invokevirtual 89, 0, 10, 2, [(2,[])]), (87, 1, .ireturn, 0, 0, 0, [])]
def bX5_canBeMarked_88 : List AOp := [(88, 1, .iconst 0, 0, 0, 0, []), (89, 1, .ireturn, 0, 0, 0, [])]
def blX5_canBeMarked : List (Nat × List AOp) := [(0, bX5_canBeMarked_0), (36, bX5_canBeMarked_36), (45, bX5_canBeMarked_45), (54, bX5_canBeMarked_54), (63, bX5_canBeMarked_63), (67, bX5_canBeMarked_67), (73, bX5_canBeMarked_73), (77, bX5_canBeMarked_77), (78, bX5_canBeMarked_78), (79, bX5_canBeMarked_79), (88, bX5_canBeMarked_88)]
def bX5_ownFirst_0 : List AOp := [(0, 1, .aload_n 0, 0, 0, 0, []), (1, 3, .getfield 24, 0, 5, 3, []), (4, 1, .iload_n 1, 0, 1, 0, []), (5, 3, .invokevirtual 89, 0, 10, 2, [(2,[])]), (8, 3, .ifCond .eq 15, 0, 0, 0, [(23,[true,true,false]), (11,[true,true,false])])]
def bX5_ownFirst_11 : List AOp := [(11, 1, .aload_n 0, 0, 0, 0, []), (12, 3, .getfield 24, 0, 5, 3, []), (15, 3, .getfield 176, 0, 2, 0, []), (18, 1, .iload_n 1, 0, 1, 0, []), (19, 1, .iaload, 0, 0, 0, []), (20, 3, .goto 4, 0, 0, 0, [(24,[true,true,false])])]
def bX5_ownFirst_23 : List AOp := [(23, 1, .iconst 0, 0, 0, 0, []), (24, 0, .nop, 0, 0, 0, [(24,[true,true,false])])]
def bX5_ownFirst_24 : List AOp := [(24, 1, .istore_n 2, 0, 2, 0, []), (25, 1, .aload_n 0, 0, 0, 0, []), (26, 3, .getfield 14, 0, 5, 0, []), (29, 1, .aload_n 0, 0, 0, 0, []), (30, 3, .getfield 30, 0, 5, 4, []), (33, 1, .iload_n 1, 0, 1, 0, []), (34, 1, .iconst 0, 0, 0, 0, []), (35, 3, .invokevirtual 132, 0, 1, 3, [(0,[])]), (38, 1, .iload_n 2, 0, 2, 0, []), (39, 3, .invokevirtual 208, 0, 13, 3, [(2,[])]), (42, 1, .istore_n 2, 0, 2, 0, []), (43, 1, .aload_n 0, 0, 0, 0, []), (44, 3, .getfield 18, 0, 5, 1, []), (47, 1, .aload_n 0, 0, 0, 0, []), (48, 3, .getfield 30, 0, 5, 4, []), (51, 1, .iload_n 1, 0, 1, 0, []), (52, 1, .iconst 1, 1, 0, 0, []), (53, 3, .invokevirtual 132, 0, 1, 3, [(0,[])]), (56, 1, .iload_n 2, 0, 2, 0, []), (57, 3, .invokevirtual 208, 0, 13, 3, [(2,[])]), (60, 1, .istore_n 2, 0, 2, 0, []), (61, 1, .aload_n 0, 0, 0, 0, []), (62, 3, .getfield 21, 0, 5, 2, []), (65, 1, .aload_n 0, 0, 0, 0, []), (66, 3, .getfield 30, 0, 5, 4, []), (69, 1, .iload_n 1, 0, 1, 0, []), (70, 1, .iconst 2, 2, 0, 0, []), (71, 3, .invokevirtual 132, 0, 1, 3, [(0,[])]), (74, 1, .iload_n 2, 0, 2, 0, []), (75, 3, .invokevirtual 208, 0, 13, 3, [(2,[])]), (78, 1, .ireturn, 0, 0, 0, [])]
def blX5_ownFirst : List (Nat × List AOp) := [(0, bX5_ownFirst_0), (11, bX5_ownFirst_11), (23, bX5_ownFirst_23), (24, bX5_ownFirst_24)]
def bX5_ownLast_0 : List AOp := [(0, 1, .aload_n 0, 0, 0, 0, []), (1, 3, .getfield 24, 0, 5, 3, []), (4, 1, .iload_n 1, 0, 1, 0, []), (5, 3, .invokevirtual 89, 0, 10, 2, [(2,[])]), (8, 3, .ifCond .eq 15, 0, 0, 0, [(23,[true,true,false]), (11,[true,true,false])])]
def bX5_ownLast_11 : List AOp := [(11, 1, .aload_n 0, 0, 0, 0, []), (12, 3, .getfield 24, 0, 5, 3, []), (15, 3, .getfield 179, 0, 2, 1, []), (18, 1, .iload_n 1, 0, 1, 0, []), (19, 1, .iaload, 0, 0, 0, []), (20, 3, .goto 4, 0, 0, 0, [(24,[true,true,false])])]
def bX5_ownLast_23 : List AOp := [(23, 1, .iconst 0, 0, 0, 0, []), (24, 0, .nop, 0, 0, 0, [(24,[true,true,false])])]
def bX5_ownLast_24 : List AOp := [(24, 1, .istore_n 2, 0, 2, 0, []), (25, 1, .aload_n 0, 0, 0, 0, []), (26, 3, .getfield 14, 0, 5, 0, []), (29, 1, .aload_n 0, 0, 0, 0, []), (30, 3, .getfield 30, 0, 5, 4, []), (33, 1, .iload_n 1, 0, 1, 0, []), (34, 1, .iconst 0, 0, 0, 0, []), (35, 3, .invokevirtual 132, 0, 1, 3, [(0,[])]), (38, 1, .iload_n 2, 0, 2, 0, []), (39, 3, .invokevirtual 211, 0, 14, 3, [(2,[])]), (42, 1, .istore_n 2, 0, 2, 0, []), (43, 1, .aload_n 0, 0, 0, 0, []), (44, 3, .getfield 18, 0, 5, 1, []), (47, 1, .aload_n 0, 0, 0, 0, []), (48, 3, .getfield 30, 0, 5, 4, []), (51, 1, .iload_n 1, 0, 1, 0, []), (52, 1, .iconst 1, 1, 0, 0, []), (53, 3, .invokevirtual 132, 0, 1, 3, [(0,[])]), (56, 1, .iload_n 2, 0, 2, 0, []), (57, 3, .invokevirtual 211, 0, 14, 3, [(2,[])]), (60, 1, .istore_n 2, 0, 2, 0, []), (61, 1, .aload_n 0, 0, 0, 0, []), (62, 3, .getfield 21, 0, 5, 2, []), (65, 1, .aload_n 0, 0, 0, 0, []), (66, 3, .getfield 30, 0, 5, 4, []), (69, 1, .iload_n 1, 0, 1, 0, []), (70, 1, .iconst 2, 2, 0, 0, []), (71, 3, .invokevirtual 132, 0, 1, 3, [(0,[])]), (74, 1, .iload_n 2, 0, 2, 0, []), (75, 3, .invokevirtual 211, 0, 14, 3, [(2,[])]), (78, 1, .ireturn, 0, 0, 0, [])]
def blX5_ownLast : List (Nat × List AOp) := [(0, bX5_ownLast_0), (11, bX5_ownLast_11), (23, bX5_ownLast_23), (24, bX5_ownLast_24)]
def bX5_hasOwnYear_0 : List AOp := [(0, 1, .aload_n 0, 0, 0, 0, []), (1, 1, .iload_n 1, 0, 1, 0, []), (2, 3, .invokevirtual 191, 0, 55, 2, [(5,[])]), (5, 1, .aload_n 0, 0, 0, 0, []), (6, 1, .iload_n 1, 0, 1, 0, []), (7, 3, .invokevirtual 194, 0, 56, 2, [(5,[])]), (10, 3, .if_icmp .gt 7, 0, 0, 0, [(17,[false,false]), (13,[false,false])])]
def bX5_hasOwnYear_13 : List AOp := [(13, 1, .iconst 1, 1, 0, 0, []), (14, 3, .goto 4, 0, 0, 0, [(18,[false,false])])]
def bX5_hasOwnYear_17 : List AOp := [(17, 1, .iconst 0, 0, 0, 0, []), (18, 0, .nop, 0, 0, 0, [(18,[false,false])])]
def bX5_hasOwnYear_18 : List AOp := [(18, 1, .ireturn, 0, 0, 0, [])]
def blX5_hasOwnYear : List (Nat × List AOp) := [(0, bX5_hasOwnYear_0), (13, bX5_hasOwnYear_13), (17, bX5_hasOwnYear_17), (18, bX5_hasOwnYear_18)]
def bX5_settle_0 : List AOp := [(0, 1, .aload_n 0, 0, 0, 0, []), (1, 3, .getfield 71, 0, 5, 12, []), (4, 3, .ifCond .eq 4, 0, 0, 0, [(8,[true,false]), (7,[false,false])])]
def bX5_settle_7 : List AOp := [(7, 1, .return_, 0, 0, 0, [])]
def bX5_settle_8 : List AOp := [(8, 1, .iconst 0, 0, 0, 0, []), (9, 1, .istore_n 1, 0, 1, 0, []), (10, 0, .nop, 0, 0, 0, [(10,[true,true])])]
def bX5_settle_10 : List AOp := [(10, 1, .iload_n 1, 0, 1, 0, []), (11, 2, .bipush 12, 12, 0, 0, []), (13, 3, .if_icmp .ge 72, 0, 0, 0, [(85,[true,false]), (16,[true,true])])]
def bX5_settle_16 : List AOp := [(16, 1, .aload_n 0, 0, 0, 0, []), (17, 3, .getfield 37, 0, 5, 5, []), (20, 3, .getfield 214, 0, 3, 0, []), (23, 1, .iload_n 1, 0, 1, 0, []), (24, 1, .aload_n 0, 0, 0, 0, []), (25, 1, .iload_n 1, 0, 1, 0, []), (26, 3, .invokevirtual 191, 0, 55, 2, [(5,[])]), (29, 1, .iastore, 0, 0, 0, []), (30, 1, .aload_n 0, 0, 0, 0, []), (31, 3, .getfield 37, 0, 5, 5, []), (34, 3, .getfield 217, 0, 3, 1, []), (37, 1, .iload_n 1, 0, 1, 0, []), (38, 1, .aload_n 0, 0, 0, 0, []), (39, 1, .iload_n 1, 0, 1, 0, []), (40, 3, .invokevirtual 194, 0, 56, 2, [(5,[])]), (43, 1, .iastore, 0, 0, 0, []), (44, 1, .aload_n 0, 0, 0, 0, []), (45, 3, .getfield 37, 0, 5, 5, []), (48, 3, .getfield 220, 0, 3, 3, []), (51, 1, .iload_n 1, 0, 1, 0, []), (52, 1, .aload_n 0, 0, 0, 0, []), (53, 3, .getfield 30, 0, 5, 4, []), (56, 1, .iload_n 1, 0, 1, 0, []), (57, 1, .iconst 4, 4, 0, 0, []), (58, 3, .invokevirtual 132, 0, 1, 3, [(0,[])]), (61, 1, .iastore, 0, 0, 0, []), (62, 1, .aload_n 0, 0, 0, 0, []), (63, 3, .getfield 37, 0, 5, 5, []), (66, 3, .getfield 223, 0, 3, 2, []), (69, 1, .iload_n 1, 0, 1, 0, []), (70, 1, .aload_n 0, 0, 0, 0, []), (71, 3, .getfield 30, 0, 5, 4, []), (74, 1, .iload_n 1, 0, 1, 0, []), (75, 3, .invokevirtual 226, 0, 4, 2, [(0,[])]), (78, 1, .iastore, 0, 0, 0, []), (79, 3, .iinc 1 1, 1, 1, 0, []), (82, 3, .goto (-72), 0, 0, 0, [(10,[true,true])])]
def bX5_settle_85 : List AOp := [(85, 1, .aload_n 0, 0, 0, 0, []), (86, 1, .aload_n 0, 0, 0, 0, []), (87, 3, .invokevirtual 126, 0, 50, 1, [(5,[])]), (90, 1, .aload_n 0, 0, 0, 0, []), (91, 3, .getfield 46, 0, 5, 6, []), (94, 1, .aload_n 0, 0, 0, 0, []), (95, 3, .invokevirtual 126, 0, 50, 1, [(5,[])]), (98, 3, .invokevirtual 229, 0, 5, 2, [(1,[])]), (101, 1, .iconst (-1), (-1), 0, 0, []), (102, 1, .ixor, 0, 0, 0, []), (103, 1, .iand, 0, 0, 0, []), (104, 3, .putfield 67, 0, 5, 11, []), (107, 1, .aload_n 0, 0, 0, 0, []), (108, 3, .getfield 37, 0, 5, 5, []), (111, 1, .aload_n 0, 0, 0, 0, []), (112, 3, .getfield 67, 0, 5, 11, []), (115, 3, .invokevirtual 232, 0, 21, 2, [(3,[])]), (118, 1, .aload_n 0, 0, 0, 0, []), (119, 1, .iconst 1, 1, 0, 0, []), (120, 3, .putfield 71, 1, 5, 12, []), (123, 1, .return_, 0, 0, 0, [])]
def blX5_settle : List (Nat × List AOp) := [(0, bX5_settle_0), (7, bX5_settle_7), (8, bX5_settle_8), (10, bX5_settle_10), (16, bX5_settle_16), (85, bX5_settle_85)]
def bX5_disputed_0 : List AOp := [(0, 1, .aload_n 0, 0, 0, 0, []), (1, 1, .iload_n 1, 0, 1, 0, []), (2, 3, .invokevirtual 117, 0, 52, 2, [(5,[])]), (5, 3, .ifCond .eq 26, 0, 0, 0, [(31,[false,false,false]), (8,[true,true,true])])]
def bX5_disputed_8 : List AOp := [(8, 1, .aload_n 0, 0, 0, 0, []), (9, 1, .iload_n 2, 0, 2, 0, []), (10, 3, .invokevirtual 117, 0, 52, 2, [(5,[])]), (13, 3, .ifCond .eq 18, 0, 0, 0, [(31,[false,false,false]), (16,[true,true,true])])]
def bX5_disputed_16 : List AOp := [(16, 1, .aload_n 0, 0, 0, 0, []), (17, 3, .getfield 57, 0, 5, 8, []), (20, 1, .iload_n 1, 0, 1, 0, []), (21, 1, .iaload, 0, 0, 0, []), (22, 1, .aload_n 0, 0, 0, 0, []), (23, 3, .getfield 57, 0, 5, 8, []), (26, 1, .iload_n 2, 0, 2, 0, []), (27, 1, .iaload, 0, 0, 0, []), (28, 3, .if_icmp .ne 5, 0, 0, 0, [(33,[true,true,true]), (31,[false,false,false])])]
def bX5_disputed_31 : List AOp := [(31, 1, .iconst 0, 0, 0, 0, []), (32, 1, .ireturn, 0, 0, 0, [])]
def bX5_disputed_33 : List AOp := [(33, 1, .aload_n 0, 0, 0, 0, []), (34, 3, .getfield 61, 0, 5, 9, []), (37, 1, .iload_n 1, 0, 1, 0, []), (38, 1, .iaload, 0, 0, 0, []), (39, 1, .aload_n 0, 0, 0, 0, []), (40, 3, .getfield 61, 0, 5, 9, []), (43, 1, .iload_n 2, 0, 2, 0, []), (44, 1, .iaload, 0, 0, 0, []), (45, 1, .iand, 0, 0, 0, []), (46, 1, .ireturn, 0, 0, 0, [])]
def blX5_disputed : List (Nat × List AOp) := [(0, bX5_disputed_0), (8, bX5_disputed_8), (16, bX5_disputed_16), (31, bX5_disputed_31), (33, bX5_disputed_33)]
def bX5_clashes_0 : List AOp := [(0, 1, .iconst 0, 0, 0, 0, []), (1, 1, .istore_n 1, 0, 1, 0, []), (2, 1, .iconst 0, 0, 0, 0, []), (3, 1, .istore_n 2, 0, 2, 0, []), (4, 0, .nop, 0, 0, 0, [(4,[true,true,true,false])])]
def bX5_clashes_4 : List AOp := [(4, 1, .iload_n 2, 0, 2, 0, []), (5, 2, .bipush 12, 12, 0, 0, []), (7, 3, .if_icmp .ge 37, 0, 0, 0, [(44,[false,true,false,false]), (10,[true,true,true,false])])]
def bX5_clashes_10 : List AOp := [(10, 1, .iload_n 2, 0, 2, 0, []), (11, 1, .iconst 1, 1, 0, 0, []), (12, 1, .iadd, 0, 0, 0, []), (13, 1, .istore_n 3, 0, 3, 0, []), (14, 0, .nop, 0, 0, 0, [(14,[true,true,true,true])])]
def bX5_clashes_14 : List AOp := [(14, 1, .iload_n 3, 0, 3, 0, []), (15, 2, .bipush 12, 12, 0, 0, []), (17, 3, .if_icmp .ge 21, 0, 0, 0, [(38,[true,true,true,false]), (20,[true,true,true,true])])]
def bX5_clashes_20 : List AOp := [(20, 1, .aload_n 0, 0, 0, 0, []), (21, 1, .iload_n 2, 0, 2, 0, []), (22, 1, .iload_n 3, 0, 3, 0, []), (23, 3, .invokevirtual 170, 0, 59, 3, [(5,[])]), (26, 3, .ifCond .eq 6, 0, 0, 0, [(32,[true,true,true,true]), (29,[true,true,true,true])])]
def bX5_clashes_29 : List AOp := [(29, 3, .iinc 1 1, 1, 1, 0, []), (32, 0, .nop, 0, 0, 0, [(32,[true,true,true,true])])]
def bX5_clashes_32 : List AOp := [(32, 3, .iinc 3 1, 1, 3, 0, []), (35, 3, .goto (-21), 0, 0, 0, [(14,[true,true,true,true])])]
def bX5_clashes_38 : List AOp := [(38, 3, .iinc 2 1, 1, 2, 0, []), (41, 3, .goto (-37), 0, 0, 0, [(4,[true,true,true,false])])]
def bX5_clashes_44 : List AOp := [(44, 1, .iload_n 1, 0, 1, 0, []), (45, 1, .ireturn, 0, 0, 0, [])]
def blX5_clashes : List (Nat × List AOp) := [(0, bX5_clashes_0), (4, bX5_clashes_4), (10, bX5_clashes_10), (14, bX5_clashes_14), (20, bX5_clashes_20), (29, bX5_clashes_29), (32, bX5_clashes_32), (38, bX5_clashes_38), (44, bX5_clashes_44)]
def bX5_isMisjudged_0 : List AOp := [(0, 1, .aload_n 0, 0, 0, 0, []), (1, 3, .getfield 64, 0, 5, 10, []), (4, 1, .iload_n 1, 0, 1, 0, []), (5, 1, .iaload, 0, 0, 0, []), (6, 1, .aload_n 0, 0, 0, 0, []), (7, 1, .iload_n 1, 0, 1, 0, []), (8, 3, .invokevirtual 117, 0, 52, 2, [(5,[])]), (11, 3, .ifCond .eq 7, 0, 0, 0, [(18,[false,false]), (14,[false,false])])]
def bX5_isMisjudged_14 : List AOp := [(14, 1, .iconst 2, 2, 0, 0, []), (15, 3, .goto 4, 0, 0, 0, [(19,[false,false])])]
def bX5_isMisjudged_18 : List AOp := [(18, 1, .iconst 1, 1, 0, 0, []), (19, 0, .nop, 0, 0, 0, [(19,[false,false])])]
def bX5_isMisjudged_19 : List AOp := [(19, 3, .if_icmp .ne 7, 0, 0, 0, [(26,[false,false]), (22,[false,false])])]
def bX5_isMisjudged_22 : List AOp := [(22, 1, .iconst 1, 1, 0, 0, []), (23, 3, .goto 4, 0, 0, 0, [(27,[false,false])])]
def bX5_isMisjudged_26 : List AOp := [(26, 1, .iconst 0, 0, 0, 0, []), (27, 0, .nop, 0, 0, 0, [(27,[false,false])])]
def bX5_isMisjudged_27 : List AOp := [(27, 1, .ireturn, 0, 0, 0, [])]
def blX5_isMisjudged : List (Nat × List AOp) := [(0, bX5_isMisjudged_0), (14, bX5_isMisjudged_14), (18, bX5_isMisjudged_18), (19, bX5_isMisjudged_19), (22, bX5_isMisjudged_22), (26, bX5_isMisjudged_26), (27, bX5_isMisjudged_27)]
def bX6_lies_0 : List AOp := [(0, 1, .iload_n 0, 0, 0, 0, []), (1, 1, .iload_n 1, 0, 1, 0, []), (2, 3, .if_icmp .lt 12, 0, 0, 0, [(14,[false,false,false]), (5,[true,false,true])])]
def bX6_lies_5 : List AOp := [(5, 1, .iload_n 0, 0, 0, 0, []), (6, 1, .iload_n 2, 0, 2, 0, []), (7, 3, .if_icmp .gt 7, 0, 0, 0, [(14,[false,false,false]), (10,[false,false,false])])]
def bX6_lies_10 : List AOp := [(10, 1, .iconst 1, 1, 0, 0, []), (11, 3, .goto 4, 0, 0, 0, [(15,[false,false,false])])]
def bX6_lies_14 : List AOp := [(14, 1, .iconst 0, 0, 0, 0, []), (15, 0, .nop, 0, 0, 0, [(15,[false,false,false])])]
def bX6_lies_15 : List AOp := [(15, 1, .ireturn, 0, 0, 0, [])]
def blX6_lies : List (Nat × List AOp) := [(0, bX6_lies_0), (5, bX6_lies_5), (10, bX6_lies_10), (14, bX6_lies_14), (15, bX6_lies_15)]
def bX6_isSpan_0 : List AOp := [(0, 1, .iload_n 0, 0, 0, 0, []), (1, 1, .iconst 0, 0, 0, 0, []), (2, 3, .sipush 3000, 3000, 0, 0, []), (5, 3, .invokestatic 91, 0, 62, 3, []), (8, 3, .ifCond .eq 18, 0, 0, 0, [(26,[false,false]), (11,[true,true])])]
def bX6_isSpan_11 : List AOp := [(11, 1, .iload_n 1, 0, 1, 0, []), (12, 1, .iload_n 0, 0, 0, 0, []), (13, 3, .sipush 3000, 3000, 0, 0, []), (16, 3, .invokestatic 91, 0, 62, 3, []), (19, 3, .ifCond .eq 7, 0, 0, 0, [(26,[false,false]), (22,[false,false])])]
def bX6_isSpan_22 : List AOp := [(22, 1, .iconst 1, 1, 0, 0, []), (23, 3, .goto 4, 0, 0, 0, [(27,[false,false])])]
def bX6_isSpan_26 : List AOp := [(26, 1, .iconst 0, 0, 0, 0, []), (27, 0, .nop, 0, 0, 0, [(27,[false,false])])]
def bX6_isSpan_27 : List AOp := [(27, 1, .ireturn, 0, 0, 0, [])]
def blX6_isSpan : List (Nat × List AOp) := [(0, bX6_isSpan_0), (11, bX6_isSpan_11), (22, bX6_isSpan_22), (26, bX6_isSpan_26), (27, bX6_isSpan_27)]
def bX6_has_0 : List AOp := [(0, 1, .iload_n 0, 0, 0, 0, []), (1, 1, .iload_n 1, 0, 1, 0, []), (2, 1, .ishr, 0, 0, 0, []), (3, 1, .iconst 1, 1, 0, 0, []), (4, 1, .iand, 0, 0, 0, []), (5, 1, .iconst 1, 1, 0, 0, []), (6, 3, .if_icmp .ne 7, 0, 0, 0, [(13,[false,false]), (9,[false,false])])]
def bX6_has_9 : List AOp := [(9, 1, .iconst 1, 1, 0, 0, []), (10, 3, .goto 4, 0, 0, 0, [(14,[false,false])])]
def bX6_has_13 : List AOp := [(13, 1, .iconst 0, 0, 0, 0, []), (14, 0, .nop, 0, 0, 0, [(14,[false,false])])]
def bX6_has_14 : List AOp := [(14, 1, .ireturn, 0, 0, 0, [])]
def blX6_has : List (Nat × List AOp) := [(0, bX6_has_0), (9, bX6_has_9), (13, bX6_has_13), (14, bX6_has_14)]
def bX6_isDeed_0 : List AOp := [(0, 1, .iload_n 1, 0, 1, 0, []), (1, 1, .iconst 0, 0, 0, 0, []), (2, 1, .aload_n 0, 0, 0, 0, []), (3, 3, .getfield 95, 0, 6, 6, []), (6, 1, .iconst 1, 1, 0, 0, []), (7, 1, .isub, 0, 0, 0, []), (8, 3, .invokestatic 91, 0, 62, 3, []), (11, 1, .ireturn, 0, 0, 0, [])]
def blX6_isDeed : List (Nat × List AOp) := [(0, bX6_isDeed_0)]
def bX6_person_0 : List AOp := [(0, 1, .aload_n 0, 0, 0, 0, []), (1, 3, .getfield 98, 0, 6, 3, []), (4, 2, .bipush 20, 20, 0, 0, []), (6, 3, .if_icmp .eq 11, 0, 0, 0, [(17,[false,false,false]), (9,[true,true,true])])]
def bX6_person_9 : List AOp := [(9, 1, .iload_n 1, 0, 1, 0, []), (10, 1, .iload_n 2, 0, 2, 0, []), (11, 3, .invokestatic 101, 0, 63, 2, []), (14, 3, .ifCond .ne 5, 0, 0, 0, [(19,[true,true,true]), (17,[false,false,false])])]
def bX6_person_17 : List AOp := [(17, 1, .iconst (-1), (-1), 0, 0, []), (18, 1, .ireturn, 0, 0, 0, [])]
def bX6_person_19 : List AOp := [(19, 1, .aload_n 0, 0, 0, 0, []), (20, 3, .getfield 17, 0, 6, 7, []), (23, 1, .aload_n 0, 0, 0, 0, []), (24, 3, .getfield 98, 0, 6, 3, []), (27, 1, .iload_n 1, 0, 1, 0, []), (28, 1, .iastore, 0, 0, 0, []), (29, 1, .aload_n 0, 0, 0, 0, []), (30, 3, .getfield 21, 0, 6, 8, []), (33, 1, .aload_n 0, 0, 0, 0, []), (34, 3, .getfield 98, 0, 6, 3, []), (37, 1, .iload_n 2, 0, 2, 0, []), (38, 1, .iastore, 0, 0, 0, []), (39, 1, .aload_n 0, 0, 0, 0, []), (40, 1, .dup, 0, 0, 0, []), (41, 3, .getfield 98, 0, 6, 3, []), (44, 1, .iconst 1, 1, 0, 0, []), (45, 1, .iadd, 0, 0, 0, []), (46, 3, .putfield 98, 0, 6, 3, []), (49, 1, .aload_n 0, 0, 0, 0, []), (50, 3, .getfield 98, 0, 6, 3, []), (53, 1, .iconst 1, 1, 0, 0, []), (54, 1, .isub, 0, 0, 0, []), (55, 1, .ireturn, 0, 0, 0, [])]
def blX6_person : List (Nat × List AOp) := [(0, bX6_person_0), (9, bX6_person_9), (17, bX6_person_17), (19, bX6_person_19)]
def bX6_lived_0 : List AOp := [(0, 1, .iload_n 1, 0, 1, 0, []), (1, 1, .iconst 0, 0, 0, 0, []), (2, 1, .aload_n 0, 0, 0, 0, []), (3, 3, .getfield 98, 0, 6, 3, []), (6, 1, .iconst 1, 1, 0, 0, []), (7, 1, .isub, 0, 0, 0, []), (8, 3, .invokestatic 91, 0, 62, 3, []), (11, 3, .ifCond .eq 11, 0, 0, 0, [(22,[false,false,false,false]), (14,[true,true,true,true])])]
def bX6_lived_14 : List AOp := [(14, 1, .iload_n 2, 0, 2, 0, []), (15, 1, .iload_n 3, 0, 3, 0, []), (16, 3, .invokestatic 101, 0, 63, 2, []), (19, 3, .ifCond .ne 5, 0, 0, 0, [(24,[true,true,true,true]), (22,[false,false,false,false])])]
def bX6_lived_22 : List AOp := [(22, 1, .iconst 0, 0, 0, 0, []), (23, 1, .ireturn, 0, 0, 0, [])]
def bX6_lived_24 : List AOp := [(24, 1, .aload_n 0, 0, 0, 0, []), (25, 3, .getfield 17, 0, 6, 7, []), (28, 1, .iload_n 1, 0, 1, 0, []), (29, 1, .iload_n 2, 0, 2, 0, []), (30, 1, .iastore, 0, 0, 0, []), (31, 1, .aload_n 0, 0, 0, 0, []), (32, 3, .getfield 21, 0, 6, 8, []), (35, 1, .iload_n 1, 0, 1, 0, []), (36, 1, .iload_n 3, 0, 3, 0, []), (37, 1, .iastore, 0, 0, 0, []), (38, 1, .aload_n 0, 0, 0, 0, []), (39, 1, .iconst 0, 0, 0, 0, []), (40, 3, .putfield 105, 1, 6, 30, []), (43, 1, .iconst 1, 1, 0, 0, []), (44, 1, .ireturn, 0, 0, 0, [])]
def blX6_lived : List (Nat × List AOp) := [(0, bX6_lived_0), (14, bX6_lived_14), (22, bX6_lived_22), (24, bX6_lived_24)]
def bX6_formula_0 : List AOp := [(0, 1, .aload_n 0, 0, 0, 0, []), (1, 3, .getfield 109, 0, 6, 4, []), (4, 2, .bipush 10, 10, 0, 0, []), (6, 3, .if_icmp .eq 11, 0, 0, 0, [(17,[false,false,false]), (9,[true,true,true])])]
def bX6_formula_9 : List AOp := [(9, 1, .iload_n 1, 0, 1, 0, []), (10, 1, .iload_n 2, 0, 2, 0, []), (11, 3, .invokestatic 101, 0, 63, 2, []), (14, 3, .ifCond .ne 5, 0, 0, 0, [(19,[true,true,true]), (17,[false,false,false])])]
def bX6_formula_17 : List AOp := [(17, 1, .iconst (-1), (-1), 0, 0, []), (18, 1, .ireturn, 0, 0, 0, [])]
def bX6_formula_19 : List AOp := [(19, 1, .aload_n 0, 0, 0, 0, []), (20, 3, .getfield 24, 0, 6, 9, []), (23, 1, .aload_n 0, 0, 0, 0, []), (24, 3, .getfield 109, 0, 6, 4, []), (27, 1, .iload_n 1, 0, 1, 0, []), (28, 1, .iastore, 0, 0, 0, []), (29, 1, .aload_n 0, 0, 0, 0, []), (30, 3, .getfield 27, 0, 6, 10, []), (33, 1, .aload_n 0, 0, 0, 0, []), (34, 3, .getfield 109, 0, 6, 4, []), (37, 1, .iload_n 2, 0, 2, 0, []), (38, 1, .iastore, 0, 0, 0, []), (39, 1, .aload_n 0, 0, 0, 0, []), (40, 1, .dup, 0, 0, 0, []), (41, 3, .getfield 109, 0, 6, 4, []), (44, 1, .iconst 1, 1, 0, 0, []), (45, 1, .iadd, 0, 0, 0, []), (46, 3, .putfield 109, 0, 6, 4, []), (49, 1, .aload_n 0, 0, 0, 0, []), (50, 3, .getfield 109, 0, 6, 4, []), (53, 1, .iconst 1, 1, 0, 0, []), (54, 1, .isub, 0, 0, 0, []), (55, 1, .ireturn, 0, 0, 0, [])]
def blX6_formula : List (Nat × List AOp) := [(0, bX6_formula_0), (9, bX6_formula_9), (17, bX6_formula_17), (19, bX6_formula_19)]
def bX6_seal_0 : List AOp := [(0, 1, .aload_n 0, 0, 0, 0, []), (1, 3, .getfield 112, 0, 6, 5, []), (4, 2, .bipush 8, 8, 0, 0, []), (6, 3, .if_icmp .eq 11, 0, 0, 0, [(17,[false,false,false]), (9,[true,true,true])])]
def bX6_seal_9 : List AOp := [(9, 1, .iload_n 1, 0, 1, 0, []), (10, 1, .iload_n 2, 0, 2, 0, []), (11, 3, .invokestatic 101, 0, 63, 2, []), (14, 3, .ifCond .ne 5, 0, 0, 0, [(19,[true,true,true]), (17,[false,false,false])])]
def bX6_seal_17 : List AOp := [(17, 1, .iconst (-1), (-1), 0, 0, []), (18, 1, .ireturn, 0, 0, 0, [])]
def bX6_seal_19 : List AOp := [(19, 1, .aload_n 0, 0, 0, 0, []), (20, 3, .getfield 30, 0, 6, 11, []), (23, 1, .aload_n 0, 0, 0, 0, []), (24, 3, .getfield 112, 0, 6, 5, []), (27, 1, .iload_n 1, 0, 1, 0, []), (28, 1, .iastore, 0, 0, 0, []), (29, 1, .aload_n 0, 0, 0, 0, []), (30, 3, .getfield 33, 0, 6, 12, []), (33, 1, .aload_n 0, 0, 0, 0, []), (34, 3, .getfield 112, 0, 6, 5, []), (37, 1, .iload_n 2, 0, 2, 0, []), (38, 1, .iastore, 0, 0, 0, []), (39, 1, .aload_n 0, 0, 0, 0, []), (40, 1, .dup, 0, 0, 0, []), (41, 3, .getfield 112, 0, 6, 5, []), (44, 1, .iconst 1, 1, 0, 0, []), (45, 1, .iadd, 0, 0, 0, []), (46, 3, .putfield 112, 0, 6, 5, []), (49, 1, .aload_n 0, 0, 0, 0, []), (50, 3, .getfield 112, 0, 6, 5, []), (53, 1, .iconst 1, 1, 0, 0, []), (54, 1, .isub, 0, 0, 0, []), (55, 1, .ireturn, 0, 0, 0, [])]
def blX6_seal : List (Nat × List AOp) := [(0, bX6_seal_0), (9, bX6_seal_9), (17, bX6_seal_17), (19, bX6_seal_19)]
def bX6_span_0 : List AOp := [(0, 1, .iload_n 1, 0, 1, 0, []), (1, 1, .iconst 0, 0, 0, 0, []), (2, 3, .sipush 200, 200, 0, 0, []), (5, 3, .invokestatic 91, 0, 62, 3, []), (8, 3, .ifCond .ne 5, 0, 0, 0, [(13,[true,true]), (11,[false,false])])]
def bX6_span_11 : List AOp := [(11, 1, .iconst 0, 0, 0, 0, []), (12, 1, .ireturn, 0, 0, 0, [])]
def bX6_span_13 : List AOp := [(13, 1, .aload_n 0, 0, 0, 0, []), (14, 1, .iload_n 1, 0, 1, 0, []), (15, 3, .putfield 13, 0, 6, 2, []), (18, 1, .aload_n 0, 0, 0, 0, []), (19, 1, .iconst 0, 0, 0, 0, []), (20, 3, .putfield 105, 1, 6, 30, []), (23, 1, .iconst 1, 1, 0, 0, []), (24, 1, .ireturn, 0, 0, 0, [])]
def blX6_span : List (Nat × List AOp) := [(0, bX6_span_0), (11, bX6_span_11), (13, bX6_span_13)]
def bX6_deed_0 : List AOp := [(0, 1, .aload_n 0, 0, 0, 0, []), (1, 3, .getfield 95, 0, 6, 6, []), (4, 2, .bipush 12, 12, 0, 0, []), (6, 3, .if_icmp .eq 21, 0, 0, 0, [(27,[false,false,false,false]), (9,[true,true,true,true])])]
def bX6_deed_9 : List AOp := [(9, 1, .iload_n 1, 0, 1, 0, []), (10, 1, .iload_n 2, 0, 2, 0, []), (11, 3, .invokestatic 101, 0, 63, 2, []), (14, 3, .ifCond .eq 13, 0, 0, 0, [(27,[false,false,false,false]), (17,[true,true,true,true])])]
def bX6_deed_17 : List AOp := [(17, 1, .iload_n 3, 0, 3, 0, []), (18, 1, .iconst 1, 1, 0, 0, []), (19, 2, .bipush 99, 99, 0, 0, []), (21, 3, .invokestatic 91, 0, 62, 3, []), (24, 3, .ifCond .ne 5, 0, 0, 0, [(29,[true,true,true,true]), (27,[false,false,false,false])])]
def bX6_deed_27 : List AOp := [(27, 1, .iconst (-1), (-1), 0, 0, []), (28, 1, .ireturn, 0, 0, 0, [])]
def bX6_deed_29 : List AOp := [(29, 1, .aload_n 0, 0, 0, 0, []), (30, 3, .getfield 36, 0, 6, 13, []), (33, 1, .aload_n 0, 0, 0, 0, []), (34, 3, .getfield 95, 0, 6, 6, []), (37, 1, .iload_n 1, 0, 1, 0, []), (38, 1, .iastore, 0, 0, 0, []), (39, 1, .aload_n 0, 0, 0, 0, []), (40, 3, .getfield 39, 0, 6, 14, []), (43, 1, .aload_n 0, 0, 0, 0, []), (44, 3, .getfield 95, 0, 6, 6, []), (47, 1, .iload_n 2, 0, 2, 0, []), (48, 1, .iastore, 0, 0, 0, []), (49, 1, .aload_n 0, 0, 0, 0, []), (50, 3, .getfield 42, 0, 6, 15, []), (53, 1, .aload_n 0, 0, 0, 0, []), (54, 3, .getfield 95, 0, 6, 6, []), (57, 1, .iload_n 3, 0, 3, 0, []), (58, 1, .iastore, 0, 0, 0, []), (59, 1, .aload_n 0, 0, 0, 0, []), (60, 1, .dup, 0, 0, 0, []), (61, 3, .getfield 95, 0, 6, 6, []), (64, 1, .iconst 1, 1, 0, 0, []), (65, 1, .iadd, 0, 0, 0, []), (66, 3, .putfield 95, 0, 6, 6, []), (69, 1, .aload_n 0, 0, 0, 0, []), (70, 1, .iconst 0, 0, 0, 0, []), (71, 3, .putfield 105, 1, 6, 30, []), (74, 1, .aload_n 0, 0, 0, 0, []), (75, 3, .getfield 95, 0, 6, 6, []), (78, 1, .iconst 1, 1, 0, 0, []), (79, 1, .isub, 0, 0, 0, []), (80, 1, .ireturn, 0, 0, 0, [])]
def blX6_deed : List (Nat × List AOp) := [(0, bX6_deed_0), (9, bX6_deed_9), (17, bX6_deed_17), (27, bX6_deed_27), (29, bX6_deed_29)]
def bX6_manyOf_0 : List AOp := [(0, 1, .iload_n 1, 0, 1, 0, []), (1, 35, .tableswitch 58 0 4 #[35, 40, 45, 50, 53], 0, 0, 0, [(36,[true,false]), (41,[true,false]), (46,[true,false]), (51,[false,false]), (54,[true,false]), (59,[false,false])])]
def bX6_manyOf_36 : List AOp := [(36, 1, .aload_n 0, 0, 0, 0, []), (37, 3, .getfield 98, 0, 6, 3, []), (40, 1, .ireturn, 0, 0, 0, [])]
def bX6_manyOf_41 : List AOp := [(41, 1, .aload_n 0, 0, 0, 0, []), (42, 3, .getfield 109, 0, 6, 4, []), (45, 1, .ireturn, 0, 0, 0, [])]
def bX6_manyOf_46 : List AOp := [(46, 1, .aload_n 0, 0, 0, 0, []), (47, 3, .getfield 112, 0, 6, 5, []), (50, 1, .ireturn, 0, 0, 0, [])]
def bX6_manyOf_51 : List AOp := [(51, 2, .bipush 8, 8, 0, 0, []), (53, 1, .ireturn, 0, 0, 0, [])]
def bX6_manyOf_54 : List AOp := [(54, 1, .aload_n 0, 0, 0, 0, []), (55, 3, .getfield 95, 0, 6, 6, []), (58, 1, .ireturn, 0, 0, 0, [])]
def bX6_manyOf_59 : List AOp := [(59, 1, .iconst 0, 0, 0, 0, []), (60, 1, .ireturn, 0, 0, 0, [])]
def blX6_manyOf : List (Nat × List AOp) := [(0, bX6_manyOf_0), (36, bX6_manyOf_36), (41, bX6_manyOf_41), (46, bX6_manyOf_46), (51, bX6_manyOf_51), (54, bX6_manyOf_54), (59, bX6_manyOf_59)]
def bX6_hasMark_0 : List AOp := [(0, 2, .bipush 8, 8, 0, 0, []), (2, 1, .iload_n 1, 0, 1, 0, []), (3, 1, .imul, 0, 0, 0, []), (4, 2, .istore 4, 0, 4, 0, []), (6, 0, .nop, 0, 0, 0, [(6,[true,true,true,true,true])])]
def bX6_hasMark_6 : List AOp := [(6, 2, .iload 4, 0, 4, 0, []), (8, 2, .bipush 8, 8, 0, 0, []), (10, 1, .iload_n 1, 0, 1, 0, []), (11, 1, .imul, 0, 0, 0, []), (12, 1, .aload_n 0, 0, 0, 0, []), (13, 3, .getfield 45, 0, 6, 16, []), (16, 1, .iload_n 1, 0, 1, 0, []), (17, 1, .iaload, 0, 0, 0, []), (18, 1, .iadd, 0, 0, 0, []), (19, 3, .if_icmp .ge 33, 0, 0, 0, [(52,[false,false,false,false,false]), (22,[true,true,true,true,true])])]
def bX6_hasMark_22 : List AOp := [(22, 1, .aload_n 0, 0, 0, 0, []), (23, 3, .getfield 48, 0, 6, 17, []), (26, 2, .iload 4, 0, 4, 0, []), (28, 1, .iaload, 0, 0, 0, []), (29, 1, .iload_n 2, 0, 2, 0, []), (30, 3, .if_icmp .ne 16, 0, 0, 0, [(46,[true,true,true,true,true]), (33,[true,true,true,true,true])])]
def bX6_hasMark_33 : List AOp := [(33, 1, .aload_n 0, 0, 0, 0, []), (34, 3, .getfield 51, 0, 6, 18, []), (37, 2, .iload 4, 0, 4, 0, []), (39, 1, .iaload, 0, 0, 0, []), (40, 1, .iload_n 3, 0, 3, 0, []), (41, 3, .if_icmp .ne 5, 0, 0, 0, [(46,[true,true,true,true,true]), (44,[false,false,false,false,false])])]
def bX6_hasMark_44 : List AOp := [(44, 1, .iconst 1, 1, 0, 0, []), (45, 1, .ireturn, 0, 0, 0, [])]
def bX6_hasMark_46 : List AOp := [(46, 3, .iinc 4 1, 1, 4, 0, []), (49, 3, .goto (-43), 0, 0, 0, [(6,[true,true,true,true,true])])]
def bX6_hasMark_52 : List AOp := [(52, 1, .iconst 0, 0, 0, 0, []), (53, 1, .ireturn, 0, 0, 0, [])]
def blX6_hasMark : List (Nat × List AOp) := [(0, bX6_hasMark_0), (6, bX6_hasMark_6), (22, bX6_hasMark_22), (33, bX6_hasMark_33), (44, bX6_hasMark_44), (46, bX6_hasMark_46), (52, bX6_hasMark_52)]
def bX6_mark_0 : List AOp := [(0, 1, .aload_n 0, 0, 0, 0, []), (1, 1, .iload_n 1, 0, 1, 0, []), (2, 3, .invokevirtual 115, 0, 65, 2, [(6,[])]), (5, 3, .ifCond .eq 49, 0, 0, 0, [(54,[false,false,false,false]), (8,[true,true,true,true])])]
def bX6_mark_8 : List AOp := [(8, 1, .iload_n 3, 0, 3, 0, []), (9, 1, .iconst 0, 0, 0, 0, []), (10, 1, .aload_n 0, 0, 0, 0, []), (11, 1, .iload_n 2, 0, 2, 0, []), (12, 3, .invokevirtual 119, 0, 72, 2, [(6,[])]), (15, 1, .iconst 1, 1, 0, 0, []), (16, 1, .isub, 0, 0, 0, []), (17, 3, .invokestatic 91, 0, 62, 3, []), (20, 3, .ifCond .eq 34, 0, 0, 0, [(54,[false,false,false,false]), (23,[true,true,true,true])])]
def bX6_mark_23 : List AOp := [(23, 1, .iload_n 2, 0, 2, 0, []), (24, 1, .iconst 4, 4, 0, 0, []), (25, 3, .if_icmp .ne 8, 0, 0, 0, [(33,[true,true,true,true]), (28,[true,true,true,true])])]
def bX6_mark_28 : List AOp := [(28, 1, .iload_n 3, 0, 3, 0, []), (29, 1, .iload_n 1, 0, 1, 0, []), (30, 3, .if_icmp .eq 24, 0, 0, 0, [(54,[false,false,false,false]), (33,[true,true,true,true])])]
def bX6_mark_33 : List AOp := [(33, 1, .aload_n 0, 0, 0, 0, []), (34, 3, .getfield 45, 0, 6, 16, []), (37, 1, .iload_n 1, 0, 1, 0, []), (38, 1, .iaload, 0, 0, 0, []), (39, 2, .bipush 8, 8, 0, 0, []), (41, 3, .if_icmp .eq 13, 0, 0, 0, [(54,[false,false,false,false]), (44,[true,true,true,true])])]
def bX6_mark_44 : List AOp := [(44, 1, .aload_n 0, 0, 0, 0, []), (45, 1, .iload_n 1, 0, 1, 0, []), (46, 1, .iload_n 2, 0, 2, 0, []), (47, 1, .iload_n 3, 0, 3, 0, []), (48, 3, .invokevirtual 123, 0, 73, 4, [(6,[])]), (51, 3, .ifCond .eq 5, 0, 0, 0, [(56,[true,true,true,true]), (54,[false,false,false,false])])]
def bX6_mark_54 : List AOp := [(54, 1, .iconst 0, 0, 0, 0, []), (55, 1, .ireturn, 0, 0, 0, [])]
def bX6_mark_56 : List AOp := [(56, 1, .aload_n 0, 0, 0, 0, []), (57, 3, .getfield 48, 0, 6, 17, []), (60, 2, .bipush 8, 8, 0, 0, []), (62, 1, .iload_n 1, 0, 1, 0, []), (63, 1, .imul, 0, 0, 0, []), (64, 1, .aload_n 0, 0, 0, 0, []), (65, 3, .getfield 45, 0, 6, 16, []), (68, 1, .iload_n 1, 0, 1, 0, []), (69, 1, .iaload, 0, 0, 0, []), (70, 1, .iadd, 0, 0, 0, []), (71, 1, .iload_n 2, 0, 2, 0, []), (72, 1, .iastore, 0, 0, 0, []), (73, 1, .aload_n 0, 0, 0, 0, []), (74, 3, .getfield 51, 0, 6, 18, []), (77, 2, .bipush 8, 8, 0, 0, []), (79, 1, .iload_n 1, 0, 1, 0, []), (80, 1, .imul, 0, 0, 0, []), (81, 1, .aload_n 0, 0, 0, 0, []), (82, 3, .getfield 45, 0, 6, 16, []), (85, 1, .iload_n 1, 0, 1, 0, []), (86, 1, .iaload, 0, 0, 0, []), (87, 1, .iadd, 0, 0, 0, []), (88, 1, .iload_n 3, 0, 3, 0, []), (89, 1, .iastore, 0, 0, 0, []), (90, 1, .aload_n 0, 0, 0, 0, []), (91, 3, .getfield 45, 0, 6, 16, []), (94, 1, .iload_n 1, 0, 1, 0, []), (95, 1, .dup2, 0, 0, 0, []), (96, 1, .iaload, 0, 0, 0, []), (97, 1, .iconst 1, 1, 0, 0, []), (98, 1, .iadd, 0, 0, 0, []), (99, 1, .iastore, 0, 0, 0, []), (100, 1, .aload_n 0, 0, 0, 0, []), (101, 1, .iconst 0, 0, 0, 0, []), (102, 3, .putfield 105, 1, 6, 30, []), (105, 1, .iconst 1, 1, 0, 0, []), (106, 1, .ireturn, 0, 0, 0, [])]
def blX6_mark : List (Nat × List AOp) := [(0, bX6_mark_0), (8, bX6_mark_8), (23, bX6_mark_23), (28, bX6_mark_28), (33, bX6_mark_33), (44, bX6_mark_44), (54, bX6_mark_54), (56, bX6_mark_56)]
def bX6_narrows_0 : List AOp := [(0, 1, .aload_n 0, 0, 0, 0, []), (1, 3, .getfield 69, 0, 6, 24, []), (4, 1, .iload_n 1, 0, 1, 0, []), (5, 1, .iload_n 2, 0, 2, 0, []), (6, 1, .aload_n 0, 0, 0, 0, []), (7, 3, .getfield 69, 0, 6, 24, []), (10, 1, .iload_n 1, 0, 1, 0, []), (11, 1, .iaload, 0, 0, 0, []), (12, 3, .if_icmp .le 7, 0, 0, 0, [(19,[true,true,false,true]), (15,[true,true,true,true])])]
def bX6_narrows_15 : List AOp := [(15, 1, .iload_n 2, 0, 2, 0, []), (16, 3, .goto 9, 0, 0, 0, [(25,[true,true,false,true])])]
def bX6_narrows_19 : List AOp := [(19, 1, .aload_n 0, 0, 0, 0, []), (20, 3, .getfield 69, 0, 6, 24, []), (23, 1, .iload_n 1, 0, 1, 0, []), (24, 1, .iaload, 0, 0, 0, []), (25, 0, .nop, 0, 0, 0, [(25,[true,true,false,true])])]
def bX6_narrows_25 : List AOp := [(25, 1, .iastore, 0, 0, 0, []), (26, 1, .aload_n 0, 0, 0, 0, []), (27, 3, .getfield 72, 0, 6, 25, []), (30, 1, .iload_n 1, 0, 1, 0, []), (31, 1, .iload_n 3, 0, 3, 0, []), (32, 1, .aload_n 0, 0, 0, 0, []), (33, 3, .getfield 72, 0, 6, 25, []), (36, 1, .iload_n 1, 0, 1, 0, []), (37, 1, .iaload, 0, 0, 0, []), (38, 3, .if_icmp .ge 7, 0, 0, 0, [(45,[true,true,false,false]), (41,[false,false,false,true])])]
def bX6_narrows_41 : List AOp := [(41, 1, .iload_n 3, 0, 3, 0, []), (42, 3, .goto 9, 0, 0, 0, [(51,[false,false,false,false])])]
def bX6_narrows_45 : List AOp := [(45, 1, .aload_n 0, 0, 0, 0, []), (46, 3, .getfield 72, 0, 6, 25, []), (49, 1, .iload_n 1, 0, 1, 0, []), (50, 1, .iaload, 0, 0, 0, []), (51, 0, .nop, 0, 0, 0, [(51,[false,false,false,false])])]
def bX6_narrows_51 : List AOp := [(51, 1, .iastore, 0, 0, 0, []), (52, 1, .return_, 0, 0, 0, [])]
def blX6_narrows : List (Nat × List AOp) := [(0, bX6_narrows_0), (15, bX6_narrows_15), (19, bX6_narrows_19), (25, bX6_narrows_25), (41, bX6_narrows_41), (45, bX6_narrows_45), (51, bX6_narrows_51)]
def bX6_owns_0 : List AOp := [(0, 1, .iconst 0, 0, 0, 0, []), (1, 1, .istore_n 1, 0, 1, 0, []), (2, 0, .nop, 0, 0, 0, [(2,[true,true,false,false,false])])]
def bX6_owns_2 : List AOp := [(2, 1, .iload_n 1, 0, 1, 0, []), (3, 1, .aload_n 0, 0, 0, 0, []), (4, 3, .getfield 95, 0, 6, 6, []), (7, 3, .if_icmp .ge 242, 0, 0, 0, [(249,[false,false,false,false,false]), (10,[true,true,false,false,false])])]
def bX6_owns_10 : List AOp := [(10, 1, .aload_n 0, 0, 0, 0, []), (11, 3, .getfield 69, 0, 6, 24, []), (14, 1, .iload_n 1, 0, 1, 0, []), (15, 1, .aload_n 0, 0, 0, 0, []), (16, 3, .getfield 36, 0, 6, 13, []), (19, 1, .iload_n 1, 0, 1, 0, []), (20, 1, .iaload, 0, 0, 0, []), (21, 1, .iastore, 0, 0, 0, []), (22, 1, .aload_n 0, 0, 0, 0, []), (23, 3, .getfield 72, 0, 6, 25, []), (26, 1, .iload_n 1, 0, 1, 0, []), (27, 1, .aload_n 0, 0, 0, 0, []), (28, 3, .getfield 39, 0, 6, 14, []), (31, 1, .iload_n 1, 0, 1, 0, []), (32, 1, .iaload, 0, 0, 0, []), (33, 1, .iastore, 0, 0, 0, []), (34, 2, .bipush 8, 8, 0, 0, []), (36, 1, .iload_n 1, 0, 1, 0, []), (37, 1, .imul, 0, 0, 0, []), (38, 1, .istore_n 2, 0, 2, 0, []), (39, 0, .nop, 0, 0, 0, [(39,[true,true,true,false,false])])]
def bX6_owns_39 : List AOp := [(39, 1, .iload_n 2, 0, 2, 0, []), (40, 2, .bipush 8, 8, 0, 0, []), (42, 1, .iload_n 1, 0, 1, 0, []), (43, 1, .imul, 0, 0, 0, []), (44, 1, .aload_n 0, 0, 0, 0, []), (45, 3, .getfield 45, 0, 6, 16, []), (48, 1, .iload_n 1, 0, 1, 0, []), (49, 1, .iaload, 0, 0, 0, []), (50, 1, .iadd, 0, 0, 0, []), (51, 3, .if_icmp .ge 96, 0, 0, 0, [(147,[true,true,false,false,false]), (54,[true,true,true,false,false])])]
def bX6_owns_54 : List AOp := [(54, 1, .aload_n 0, 0, 0, 0, []), (55, 3, .getfield 51, 0, 6, 18, []), (58, 1, .iload_n 2, 0, 2, 0, []), (59, 1, .iaload, 0, 0, 0, []), (60, 1, .istore_n 3, 0, 3, 0, []), (61, 1, .aload_n 0, 0, 0, 0, []), (62, 3, .getfield 48, 0, 6, 17, []), (65, 1, .iload_n 2, 0, 2, 0, []), (66, 1, .iaload, 0, 0, 0, []), (67, 3, .ifCond .ne 20, 0, 0, 0, [(87,[true,true,true,true,false]), (70,[true,true,true,true,false])])]
def bX6_owns_70 : List AOp := [(70, 1, .aload_n 0, 0, 0, 0, []), (71, 1, .iload_n 1, 0, 1, 0, []), (72, 1, .aload_n 0, 0, 0, 0, []), (73, 3, .getfield 17, 0, 6, 7, []), (76, 1, .iload_n 3, 0, 3, 0, []), (77, 1, .iaload, 0, 0, 0, []), (78, 1, .aload_n 0, 0, 0, 0, []), (79, 3, .getfield 21, 0, 6, 8, []), (82, 1, .iload_n 3, 0, 3, 0, []), (83, 1, .iaload, 0, 0, 0, []), (84, 3, .invokevirtual 126, 0, 75, 4, [(6,[])]), (87, 0, .nop, 0, 0, 0, [(87,[true,true,true,true,false])])]
def bX6_owns_87 : List AOp := [(87, 1, .aload_n 0, 0, 0, 0, []), (88, 3, .getfield 48, 0, 6, 17, []), (91, 1, .iload_n 2, 0, 2, 0, []), (92, 1, .iaload, 0, 0, 0, []), (93, 1, .iconst 1, 1, 0, 0, []), (94, 3, .if_icmp .ne 20, 0, 0, 0, [(114,[true,true,true,true,false]), (97,[true,true,true,true,false])])]
def bX6_owns_97 : List AOp := [(97, 1, .aload_n 0, 0, 0, 0, []), (98, 1, .iload_n 1, 0, 1, 0, []), (99, 1, .aload_n 0, 0, 0, 0, []), (100, 3, .getfield 24, 0, 6, 9, []), (103, 1, .iload_n 3, 0, 3, 0, []), (104, 1, .iaload, 0, 0, 0, []), (105, 1, .aload_n 0, 0, 0, 0, []), (106, 3, .getfield 27, 0, 6, 10, []), (109, 1, .iload_n 3, 0, 3, 0, []), (110, 1, .iaload, 0, 0, 0, []), (111, 3, .invokevirtual 126, 0, 75, 4, [(6,[])]), (114, 0, .nop, 0, 0, 0, [(114,[true,true,true,true,false])])]
def bX6_owns_114 : List AOp := [(114, 1, .aload_n 0, 0, 0, 0, []), (115, 3, .getfield 48, 0, 6, 17, []), (118, 1, .iload_n 2, 0, 2, 0, []), (119, 1, .iaload, 0, 0, 0, []), (120, 1, .iconst 2, 2, 0, 0, []), (121, 3, .if_icmp .ne 20, 0, 0, 0, [(141,[true,true,true,false,false]), (124,[true,true,true,true,false])])]
def bX6_owns_124 : List AOp := [(124, 1, .aload_n 0, 0, 0, 0, []), (125, 1, .iload_n 1, 0, 1, 0, []), (126, 1, .aload_n 0, 0, 0, 0, []), (127, 3, .getfield 30, 0, 6, 11, []), (130, 1, .iload_n 3, 0, 3, 0, []), (131, 1, .iaload, 0, 0, 0, []), (132, 1, .aload_n 0, 0, 0, 0, []), (133, 3, .getfield 33, 0, 6, 12, []), (136, 1, .iload_n 3, 0, 3, 0, []), (137, 1, .iaload, 0, 0, 0, []), (138, 3, .invokevirtual 126, 0, 75, 4, [(6,[])]), (141, 0, .nop, 0, 0, 0, [(141,[true,true,true,false,false])])]
def bX6_owns_141 : List AOp := [(141, 3, .iinc 2 1, 1, 2, 0, []), (144, 3, .goto (-105), 0, 0, 0, [(39,[true,true,true,false,false])])]
def bX6_owns_147 : List AOp := [(147, 1, .iconst 0, 0, 0, 0, []), (148, 1, .istore_n 2, 0, 2, 0, []), (149, 0, .nop, 0, 0, 0, [(149,[true,true,true,false,false])])]
def bX6_owns_149 : List AOp := [(149, 1, .iload_n 2, 0, 2, 0, []), (150, 1, .aload_n 0, 0, 0, 0, []), (151, 3, .getfield 95, 0, 6, 6, []), (154, 3, .if_icmp .ge 89, 0, 0, 0, [(243,[true,true,false,false,false]), (157,[true,true,true,false,false])])]
def bX6_owns_157 : List AOp := [(157, 1, .iconst 0, 0, 0, 0, []), (158, 1, .istore_n 3, 0, 3, 0, []), (159, 1, .iconst 0, 0, 0, 0, []), (160, 2, .istore 4, 0, 4, 0, []), (162, 0, .nop, 0, 0, 0, [(162,[true,true,true,true,true])])]
def bX6_owns_162 : List AOp := [(162, 2, .iload 4, 0, 4, 0, []), (164, 2, .bipush 8, 8, 0, 0, []), (166, 3, .if_icmp .ge 41, 0, 0, 0, [(207,[true,true,true,true,false]), (169,[true,true,true,true,true])])]
def bX6_owns_169 : List AOp := [(169, 1, .iload_n 3, 0, 3, 0, []), (170, 3, .ifCond .ne 25, 0, 0, 0, [(195,[true,true,true,false,true]), (173,[true,true,true,false,true])])]
def bX6_owns_173 : List AOp := [(173, 1, .aload_n 0, 0, 0, 0, []), (174, 1, .iload_n 1, 0, 1, 0, []), (175, 1, .iconst 3, 3, 0, 0, []), (176, 2, .iload 4, 0, 4, 0, []), (178, 3, .invokevirtual 123, 0, 73, 4, [(6,[])]), (181, 3, .ifCond .eq 18, 0, 0, 0, [(199,[true,true,true,false,true]), (184,[true,true,true,false,true])])]
def bX6_owns_184 : List AOp := [(184, 1, .aload_n 0, 0, 0, 0, []), (185, 1, .iload_n 2, 0, 2, 0, []), (186, 1, .iconst 3, 3, 0, 0, []), (187, 2, .iload 4, 0, 4, 0, []), (189, 3, .invokevirtual 123, 0, 73, 4, [(6,[])]), (192, 3, .ifCond .eq 7, 0, 0, 0, [(199,[true,true,true,false,true]), (195,[true,true,true,false,true])])]
def bX6_owns_195 : List AOp := [(195, 1, .iconst 1, 1, 0, 0, []), (196, 3, .goto 4, 0, 0, 0, [(200,[true,true,true,false,true])])]
def bX6_owns_199 : List AOp := [(199, 1, .iconst 0, 0, 0, 0, []), (200, 0, .nop, 0, 0, 0, [(200,[true,true,true,false,true])])]
def bX6_owns_200 : List AOp := [(200, 1, .istore_n 3, 0, 3, 0, []), (201, 3, .iinc 4 1, 1, 4, 0, []), (204, 3, .goto (-42), 0, 0, 0, [(162,[true,true,true,true,true])])]
def bX6_owns_207 : List AOp := [(207, 1, .aload_n 0, 0, 0, 0, []), (208, 3, .getfield 75, 0, 6, 26, []), (211, 2, .bipush 12, 12, 0, 0, []), (213, 1, .iload_n 1, 0, 1, 0, []), (214, 1, .imul, 0, 0, 0, []), (215, 1, .iload_n 2, 0, 2, 0, []), (216, 1, .iadd, 0, 0, 0, []), (217, 1, .iload_n 3, 0, 3, 0, []), (218, 1, .bastore, 0, 0, 0, []), (219, 1, .aload_n 0, 0, 0, 0, []), (220, 3, .getfield 79, 0, 6, 27, []), (223, 2, .bipush 12, 12, 0, 0, []), (225, 1, .iload_n 1, 0, 1, 0, []), (226, 1, .imul, 0, 0, 0, []), (227, 1, .iload_n 2, 0, 2, 0, []), (228, 1, .iadd, 0, 0, 0, []), (229, 1, .aload_n 0, 0, 0, 0, []), (230, 1, .iload_n 1, 0, 1, 0, []), (231, 1, .iconst 4, 4, 0, 0, []), (232, 1, .iload_n 2, 0, 2, 0, []), (233, 3, .invokevirtual 123, 0, 73, 4, [(6,[])]), (236, 1, .bastore, 0, 0, 0, []), (237, 3, .iinc 2 1, 1, 2, 0, []), (240, 3, .goto (-91), 0, 0, 0, [(149,[true,true,true,false,false])])]
def bX6_owns_243 : List AOp := [(243, 3, .iinc 1 1, 1, 1, 0, []), (246, 3, .goto (-244), 0, 0, 0, [(2,[true,true,false,false,false])])]
def bX6_owns_249 : List AOp := [(249, 1, .return_, 0, 0, 0, [])]
def blX6_owns : List (Nat × List AOp) := [(0, bX6_owns_0), (2, bX6_owns_2), (10, bX6_owns_10), (39, bX6_owns_39), (54, bX6_owns_54), (70, bX6_owns_70), (87, bX6_owns_87), (97, bX6_owns_97), (114, bX6_owns_114), (124, bX6_owns_124), (141, bX6_owns_141), (147, bX6_owns_147), (149, bX6_owns_149), (157, bX6_owns_157), (162, bX6_owns_162), (169, bX6_owns_169), (173, bX6_owns_173), (184, bX6_owns_184), (195, bX6_owns_195), (199, bX6_owns_199), (200, bX6_owns_200), (207, bX6_owns_207), (243, bX6_owns_243), (249, bX6_owns_249)]
def bX6_ups_0 : List AOp := [(0, 1, .iconst 0, 0, 0, 0, []), (1, 1, .istore_n 2, 0, 2, 0, []), (2, 0, .nop, 0, 0, 0, [(2,[true,true,true,false,false,false])])]
def bX6_ups_2 : List AOp := [(2, 1, .iload_n 2, 0, 2, 0, []), (3, 1, .aload_n 0, 0, 0, 0, []), (4, 3, .getfield 95, 0, 6, 6, []), (7, 3, .if_icmp .ge 21, 0, 0, 0, [(28,[true,true,false,false,false,false]), (10,[true,true,true,false,false,false])])]
def bX6_ups_10 : List AOp := [(10, 1, .aload_n 0, 0, 0, 0, []), (11, 3, .getfield 82, 0, 6, 28, []), (14, 1, .iload_n 2, 0, 2, 0, []), (15, 1, .aload_n 0, 0, 0, 0, []), (16, 3, .getfield 69, 0, 6, 24, []), (19, 1, .iload_n 2, 0, 2, 0, []), (20, 1, .iaload, 0, 0, 0, []), (21, 1, .iastore, 0, 0, 0, []), (22, 3, .iinc 2 1, 1, 2, 0, []), (25, 3, .goto (-23), 0, 0, 0, [(2,[true,true,true,false,false,false])])]
def bX6_ups_28 : List AOp := [(28, 1, .iconst 1, 1, 0, 0, []), (29, 1, .istore_n 2, 0, 2, 0, []), (30, 0, .nop, 0, 0, 0, [(30,[true,true,true,false,false,false])])]
def bX6_ups_30 : List AOp := [(30, 1, .iload_n 2, 0, 2, 0, []), (31, 3, .ifCond .eq 155, 0, 0, 0, [(186,[false,false,false,false,false,false]), (34,[true,true,false,false,false,false])])]
def bX6_ups_34 : List AOp := [(34, 1, .iconst 0, 0, 0, 0, []), (35, 1, .istore_n 2, 0, 2, 0, []), (36, 1, .iconst 0, 0, 0, 0, []), (37, 1, .istore_n 3, 0, 3, 0, []), (38, 0, .nop, 0, 0, 0, [(38,[true,true,true,true,false,false])])]
def bX6_ups_38 : List AOp := [(38, 1, .iload_n 3, 0, 3, 0, []), (39, 1, .aload_n 0, 0, 0, 0, []), (40, 3, .getfield 95, 0, 6, 6, []), (43, 3, .if_icmp .ge 140, 0, 0, 0, [(183,[true,true,true,false,false,false]), (46,[true,true,true,true,false,false])])]
def bX6_ups_46 : List AOp := [(46, 1, .iconst 0, 0, 0, 0, []), (47, 2, .istore 4, 0, 4, 0, []), (49, 0, .nop, 0, 0, 0, [(49,[true,true,true,true,true,false])])]
def bX6_ups_49 : List AOp := [(49, 2, .iload 4, 0, 4, 0, []), (51, 1, .aload_n 0, 0, 0, 0, []), (52, 3, .getfield 95, 0, 6, 6, []), (55, 3, .if_icmp .ge 122, 0, 0, 0, [(177,[true,true,true,true,false,false]), (58,[true,true,true,true,true,false])])]
def bX6_ups_58 : List AOp := [(58, 1, .iload_n 3, 0, 3, 0, []), (59, 2, .iload 4, 0, 4, 0, []), (61, 3, .if_icmp .eq 110, 0, 0, 0, [(171,[true,true,true,true,true,false]), (64,[true,true,true,true,true,false])])]
def bX6_ups_64 : List AOp := [(64, 1, .iload_n 1, 0, 1, 0, []), (65, 1, .iload_n 3, 0, 3, 0, []), (66, 3, .invokestatic 130, 0, 64, 2, []), (69, 3, .ifCond .eq 102, 0, 0, 0, [(171,[true,true,true,true,true,false]), (72,[true,true,true,true,true,false])])]
def bX6_ups_72 : List AOp := [(72, 1, .iload_n 1, 0, 1, 0, []), (73, 2, .iload 4, 0, 4, 0, []), (75, 3, .invokestatic 130, 0, 64, 2, []), (78, 3, .ifCond .ne 6, 0, 0, 0, [(84,[true,true,true,true,true,false]), (81,[true,true,true,true,true,false])])]
def bX6_ups_81 : List AOp := [(81, 3, .goto 90, 0, 0, 0, [(171,[true,true,true,true,true,false])])]
def bX6_ups_84 : List AOp := [(84, 1, .aload_n 0, 0, 0, 0, []), (85, 3, .getfield 79, 0, 6, 27, []), (88, 2, .bipush 12, 12, 0, 0, []), (90, 1, .iload_n 3, 0, 3, 0, []), (91, 1, .imul, 0, 0, 0, []), (92, 2, .iload 4, 0, 4, 0, []), (94, 1, .iadd, 0, 0, 0, []), (95, 1, .baload, 0, 0, 0, []), (96, 3, .ifCond .eq 13, 0, 0, 0, [(109,[true,true,true,true,true,false]), (99,[true,true,true,true,true,false])])]
def bX6_ups_99 : List AOp := [(99, 1, .aload_n 0, 0, 0, 0, []), (100, 3, .getfield 82, 0, 6, 28, []), (103, 2, .iload 4, 0, 4, 0, []), (105, 1, .iaload, 0, 0, 0, []), (106, 3, .goto 39, 0, 0, 0, [(145,[true,true,true,true,true,false])])]
def bX6_ups_109 : List AOp := [(109, 1, .aload_n 0, 0, 0, 0, []), (110, 3, .getfield 75, 0, 6, 26, []), (113, 2, .bipush 12, 12, 0, 0, []), (115, 1, .iload_n 3, 0, 3, 0, []), (116, 1, .imul, 0, 0, 0, []), (117, 2, .iload 4, 0, 4, 0, []), (119, 1, .iadd, 0, 0, 0, []), (120, 1, .baload, 0, 0, 0, []), (121, 3, .ifCond .eq 18, 0, 0, 0, [(139,[true,true,true,true,true,false]), (124,[true,true,true,true,true,false])])]
def bX6_ups_124 : List AOp := [(124, 1, .aload_n 0, 0, 0, 0, []), (125, 3, .getfield 82, 0, 6, 28, []), (128, 2, .iload 4, 0, 4, 0, []), (130, 1, .iaload, 0, 0, 0, []), (131, 1, .aload_n 0, 0, 0, 0, []), (132, 3, .getfield 13, 0, 6, 2, []), (135, 1, .isub, 0, 0, 0, []), (136, 3, .goto 9, 0, 0, 0, [(145,[true,true,true,true,true,false])])]
def bX6_ups_139 : List AOp := [(139, 1, .aload_n 0, 0, 0, 0, []), (140, 3, .getfield 82, 0, 6, 28, []), (143, 1, .iload_n 3, 0, 3, 0, []), (144, 1, .iaload, 0, 0, 0, []), (145, 0, .nop, 0, 0, 0, [(145,[true,true,true,true,true,false])])]
def bX6_ups_145 : List AOp := [(145, 2, .istore 5, 0, 5, 0, []), (147, 2, .iload 5, 0, 5, 0, []), (149, 1, .aload_n 0, 0, 0, 0, []), (150, 3, .getfield 82, 0, 6, 28, []), (153, 1, .iload_n 3, 0, 3, 0, []), (154, 1, .iaload, 0, 0, 0, []), (155, 3, .if_icmp .gt 6, 0, 0, 0, [(161,[true,true,false,true,true,true]), (158,[true,true,true,true,true,false])])]
def bX6_ups_158 : List AOp := [(158, 3, .goto 13, 0, 0, 0, [(171,[true,true,true,true,true,false])])]
def bX6_ups_161 : List AOp := [(161, 1, .aload_n 0, 0, 0, 0, []), (162, 3, .getfield 82, 0, 6, 28, []), (165, 1, .iload_n 3, 0, 3, 0, []), (166, 2, .iload 5, 0, 5, 0, []), (168, 1, .iastore, 0, 0, 0, []), (169, 1, .iconst 1, 1, 0, 0, []), (170, 1, .istore_n 2, 0, 2, 0, []), (171, 0, .nop, 0, 0, 0, [(171,[true,true,true,true,true,false])])]
def bX6_ups_171 : List AOp := [(171, 3, .iinc 4 1, 1, 4, 0, []), (174, 3, .goto (-125), 0, 0, 0, [(49,[true,true,true,true,true,false])])]
def bX6_ups_177 : List AOp := [(177, 3, .iinc 3 1, 1, 3, 0, []), (180, 3, .goto (-142), 0, 0, 0, [(38,[true,true,true,true,false,false])])]
def bX6_ups_183 : List AOp := [(183, 3, .goto (-153), 0, 0, 0, [(30,[true,true,true,false,false,false])])]
def bX6_ups_186 : List AOp := [(186, 1, .return_, 0, 0, 0, [])]
def blX6_ups : List (Nat × List AOp) := [(0, bX6_ups_0), (2, bX6_ups_2), (10, bX6_ups_10), (28, bX6_ups_28), (30, bX6_ups_30), (34, bX6_ups_34), (38, bX6_ups_38), (46, bX6_ups_46), (49, bX6_ups_49), (58, bX6_ups_58), (64, bX6_ups_64), (72, bX6_ups_72), (81, bX6_ups_81), (84, bX6_ups_84), (99, bX6_ups_99), (109, bX6_ups_109), (124, bX6_ups_124), (139, bX6_ups_139), (145, bX6_ups_145), (158, bX6_ups_158), (161, bX6_ups_161), (171, bX6_ups_171), (177, bX6_ups_177), (183, bX6_ups_183), (186, bX6_ups_186)]
def bX6_downs_0 : List AOp := [(0, 1, .iconst 0, 0, 0, 0, []), (1, 1, .istore_n 2, 0, 2, 0, []), (2, 0, .nop, 0, 0, 0, [(2,[true,true,true,false,false,false])])]
def bX6_downs_2 : List AOp := [(2, 1, .iload_n 2, 0, 2, 0, []), (3, 1, .aload_n 0, 0, 0, 0, []), (4, 3, .getfield 95, 0, 6, 6, []), (7, 3, .if_icmp .ge 21, 0, 0, 0, [(28,[true,true,false,false,false,false]), (10,[true,true,true,false,false,false])])]
def bX6_downs_10 : List AOp := [(10, 1, .aload_n 0, 0, 0, 0, []), (11, 3, .getfield 85, 0, 6, 29, []), (14, 1, .iload_n 2, 0, 2, 0, []), (15, 1, .aload_n 0, 0, 0, 0, []), (16, 3, .getfield 72, 0, 6, 25, []), (19, 1, .iload_n 2, 0, 2, 0, []), (20, 1, .iaload, 0, 0, 0, []), (21, 1, .iastore, 0, 0, 0, []), (22, 3, .iinc 2 1, 1, 2, 0, []), (25, 3, .goto (-23), 0, 0, 0, [(2,[true,true,true,false,false,false])])]
def bX6_downs_28 : List AOp := [(28, 1, .iconst 1, 1, 0, 0, []), (29, 1, .istore_n 2, 0, 2, 0, []), (30, 0, .nop, 0, 0, 0, [(30,[true,true,true,false,false,false])])]
def bX6_downs_30 : List AOp := [(30, 1, .iload_n 2, 0, 2, 0, []), (31, 3, .ifCond .eq 155, 0, 0, 0, [(186,[false,false,false,false,false,false]), (34,[true,true,false,false,false,false])])]
def bX6_downs_34 : List AOp := [(34, 1, .iconst 0, 0, 0, 0, []), (35, 1, .istore_n 2, 0, 2, 0, []), (36, 1, .iconst 0, 0, 0, 0, []), (37, 1, .istore_n 3, 0, 3, 0, []), (38, 0, .nop, 0, 0, 0, [(38,[true,true,true,true,false,false])])]
def bX6_downs_38 : List AOp := [(38, 1, .iload_n 3, 0, 3, 0, []), (39, 1, .aload_n 0, 0, 0, 0, []), (40, 3, .getfield 95, 0, 6, 6, []), (43, 3, .if_icmp .ge 140, 0, 0, 0, [(183,[true,true,true,false,false,false]), (46,[true,true,true,true,false,false])])]
def bX6_downs_46 : List AOp := [(46, 1, .iconst 0, 0, 0, 0, []), (47, 2, .istore 4, 0, 4, 0, []), (49, 0, .nop, 0, 0, 0, [(49,[true,true,true,true,true,false])])]
def bX6_downs_49 : List AOp := [(49, 2, .iload 4, 0, 4, 0, []), (51, 1, .aload_n 0, 0, 0, 0, []), (52, 3, .getfield 95, 0, 6, 6, []), (55, 3, .if_icmp .ge 122, 0, 0, 0, [(177,[true,true,true,true,false,false]), (58,[true,true,true,true,true,false])])]
def bX6_downs_58 : List AOp := [(58, 1, .iload_n 3, 0, 3, 0, []), (59, 2, .iload 4, 0, 4, 0, []), (61, 3, .if_icmp .eq 110, 0, 0, 0, [(171,[true,true,true,true,true,false]), (64,[true,true,true,true,true,false])])]
def bX6_downs_64 : List AOp := [(64, 1, .iload_n 1, 0, 1, 0, []), (65, 1, .iload_n 3, 0, 3, 0, []), (66, 3, .invokestatic 130, 0, 64, 2, []), (69, 3, .ifCond .eq 102, 0, 0, 0, [(171,[true,true,true,true,true,false]), (72,[true,true,true,true,true,false])])]
def bX6_downs_72 : List AOp := [(72, 1, .iload_n 1, 0, 1, 0, []), (73, 2, .iload 4, 0, 4, 0, []), (75, 3, .invokestatic 130, 0, 64, 2, []), (78, 3, .ifCond .ne 6, 0, 0, 0, [(84,[true,true,true,true,true,false]), (81,[true,true,true,true,true,false])])]
def bX6_downs_81 : List AOp := [(81, 3, .goto 90, 0, 0, 0, [(171,[true,true,true,true,true,false])])]
def bX6_downs_84 : List AOp := [(84, 1, .aload_n 0, 0, 0, 0, []), (85, 3, .getfield 79, 0, 6, 27, []), (88, 2, .bipush 12, 12, 0, 0, []), (90, 2, .iload 4, 0, 4, 0, []), (92, 1, .imul, 0, 0, 0, []), (93, 1, .iload_n 3, 0, 3, 0, []), (94, 1, .iadd, 0, 0, 0, []), (95, 1, .baload, 0, 0, 0, []), (96, 3, .ifCond .eq 13, 0, 0, 0, [(109,[true,true,true,true,true,false]), (99,[true,true,true,true,true,false])])]
def bX6_downs_99 : List AOp := [(99, 1, .aload_n 0, 0, 0, 0, []), (100, 3, .getfield 85, 0, 6, 29, []), (103, 2, .iload 4, 0, 4, 0, []), (105, 1, .iaload, 0, 0, 0, []), (106, 3, .goto 39, 0, 0, 0, [(145,[true,true,true,true,true,false])])]
def bX6_downs_109 : List AOp := [(109, 1, .aload_n 0, 0, 0, 0, []), (110, 3, .getfield 75, 0, 6, 26, []), (113, 2, .bipush 12, 12, 0, 0, []), (115, 1, .iload_n 3, 0, 3, 0, []), (116, 1, .imul, 0, 0, 0, []), (117, 2, .iload 4, 0, 4, 0, []), (119, 1, .iadd, 0, 0, 0, []), (120, 1, .baload, 0, 0, 0, []), (121, 3, .ifCond .eq 18, 0, 0, 0, [(139,[true,true,true,true,true,false]), (124,[true,true,true,true,true,false])])]
def bX6_downs_124 : List AOp := [(124, 1, .aload_n 0, 0, 0, 0, []), (125, 3, .getfield 85, 0, 6, 29, []), (128, 2, .iload 4, 0, 4, 0, []), (130, 1, .iaload, 0, 0, 0, []), (131, 1, .aload_n 0, 0, 0, 0, []), (132, 3, .getfield 13, 0, 6, 2, []), (135, 1, .iadd, 0, 0, 0, []), (136, 3, .goto 9, 0, 0, 0, [(145,[true,true,true,true,true,false])])]
def bX6_downs_139 : List AOp := [(139, 1, .aload_n 0, 0, 0, 0, []), (140, 3, .getfield 85, 0, 6, 29, []), (143, 1, .iload_n 3, 0, 3, 0, []), (144, 1, .iaload, 0, 0, 0, []), (145, 0, .nop, 0, 0, 0, [(145,[true,true,true,true,true,false])])]
def bX6_downs_145 : List AOp := [(145, 2, .istore 5, 0, 5, 0, []), (147, 2, .iload 5, 0, 5, 0, []), (149, 1, .aload_n 0, 0, 0, 0, []), (150, 3, .getfield 85, 0, 6, 29, []), (153, 1, .iload_n 3, 0, 3, 0, []), (154, 1, .iaload, 0, 0, 0, []), (155, 3, .if_icmp .lt 6, 0, 0, 0, [(161,[true,true,false,true,true,true]), (158,[true,true,true,true,true,false])])]
def bX6_downs_158 : List AOp := [(158, 3, .goto 13, 0, 0, 0, [(171,[true,true,true,true,true,false])])]
def bX6_downs_161 : List AOp := [(161, 1, .aload_n 0, 0, 0, 0, []), (162, 3, .getfield 85, 0, 6, 29, []), (165, 1, .iload_n 3, 0, 3, 0, []), (166, 2, .iload 5, 0, 5, 0, []), (168, 1, .iastore, 0, 0, 0, []), (169, 1, .iconst 1, 1, 0, 0, []), (170, 1, .istore_n 2, 0, 2, 0, []), (171, 0, .nop, 0, 0, 0, [(171,[true,true,true,true,true,false])])]
def bX6_downs_171 : List AOp := [(171, 3, .iinc 4 1, 1, 4, 0, []), (174, 3, .goto (-125), 0, 0, 0, [(49,[true,true,true,true,true,false])])]
def bX6_downs_177 : List AOp := [(177, 3, .iinc 3 1, 1, 3, 0, []), (180, 3, .goto (-142), 0, 0, 0, [(38,[true,true,true,true,false,false])])]
def bX6_downs_183 : List AOp := [(183, 3, .goto (-153), 0, 0, 0, [(30,[true,true,true,false,false,false])])]
def bX6_downs_186 : List AOp := [(186, 1, .return_, 0, 0, 0, [])]
def blX6_downs : List (Nat × List AOp) := [(0, bX6_downs_0), (2, bX6_downs_2), (10, bX6_downs_10), (28, bX6_downs_28), (30, bX6_downs_30), (34, bX6_downs_34), (38, bX6_downs_38), (46, bX6_downs_46), (49, bX6_downs_49), (58, bX6_downs_58), (64, bX6_downs_64), (72, bX6_downs_72), (81, bX6_downs_81), (84, bX6_downs_84), (99, bX6_downs_99), (109, bX6_downs_109), (124, bX6_downs_124), (139, bX6_downs_139), (145, bX6_downs_145), (158, bX6_downs_158), (161, bX6_downs_161), (171, bX6_downs_171), (177, bX6_downs_177), (183, bX6_downs_183), (186, bX6_downs_186)]
def bX6_agrees_0 : List AOp := [(0, 1, .iconst 0, 0, 0, 0, []), (1, 1, .istore_n 2, 0, 2, 0, []), (2, 0, .nop, 0, 0, 0, [(2,[true,true,true])])]
def bX6_agrees_2 : List AOp := [(2, 1, .iload_n 2, 0, 2, 0, []), (3, 1, .aload_n 0, 0, 0, 0, []), (4, 3, .getfield 95, 0, 6, 6, []), (7, 3, .if_icmp .ge 34, 0, 0, 0, [(41,[true,true,false]), (10,[true,true,true])])]
def bX6_agrees_10 : List AOp := [(10, 1, .iload_n 1, 0, 1, 0, []), (11, 1, .iload_n 2, 0, 2, 0, []), (12, 3, .invokestatic 130, 0, 64, 2, []), (15, 3, .ifCond .eq 20, 0, 0, 0, [(35,[true,true,true]), (18,[true,true,true])])]
def bX6_agrees_18 : List AOp := [(18, 1, .aload_n 0, 0, 0, 0, []), (19, 3, .getfield 69, 0, 6, 24, []), (22, 1, .iload_n 2, 0, 2, 0, []), (23, 1, .iaload, 0, 0, 0, []), (24, 1, .aload_n 0, 0, 0, 0, []), (25, 3, .getfield 72, 0, 6, 25, []), (28, 1, .iload_n 2, 0, 2, 0, []), (29, 1, .iaload, 0, 0, 0, []), (30, 3, .if_icmp .le 5, 0, 0, 0, [(35,[true,true,true]), (33,[false,false,false])])]
def bX6_agrees_33 : List AOp := [(33, 1, .iconst 0, 0, 0, 0, []), (34, 1, .ireturn, 0, 0, 0, [])]
def bX6_agrees_35 : List AOp := [(35, 3, .iinc 2 1, 1, 2, 0, []), (38, 3, .goto (-36), 0, 0, 0, [(2,[true,true,true])])]
def bX6_agrees_41 : List AOp := [(41, 1, .aload_n 0, 0, 0, 0, []), (42, 1, .iload_n 1, 0, 1, 0, []), (43, 3, .invokevirtual 133, 0, 77, 2, [(6,[])]), (46, 1, .iconst 0, 0, 0, 0, []), (47, 1, .istore_n 2, 0, 2, 0, []), (48, 0, .nop, 0, 0, 0, [(48,[true,true,true])])]
def bX6_agrees_48 : List AOp := [(48, 1, .iload_n 2, 0, 2, 0, []), (49, 1, .aload_n 0, 0, 0, 0, []), (50, 3, .getfield 95, 0, 6, 6, []), (53, 3, .if_icmp .ge 34, 0, 0, 0, [(87,[false,false,false]), (56,[true,true,true])])]
def bX6_agrees_56 : List AOp := [(56, 1, .iload_n 1, 0, 1, 0, []), (57, 1, .iload_n 2, 0, 2, 0, []), (58, 3, .invokestatic 130, 0, 64, 2, []), (61, 3, .ifCond .eq 20, 0, 0, 0, [(81,[true,true,true]), (64,[true,true,true])])]
def bX6_agrees_64 : List AOp := [(64, 1, .aload_n 0, 0, 0, 0, []), (65, 3, .getfield 82, 0, 6, 28, []), (68, 1, .iload_n 2, 0, 2, 0, []), (69, 1, .iaload, 0, 0, 0, []), (70, 1, .aload_n 0, 0, 0, 0, []), (71, 3, .getfield 72, 0, 6, 25, []), (74, 1, .iload_n 2, 0, 2, 0, []), (75, 1, .iaload, 0, 0, 0, []), (76, 3, .if_icmp .le 5, 0, 0, 0, [(81,[true,true,true]), (79,[false,false,false])])]
def bX6_agrees_79 : List AOp := [(79, 1, .iconst 0, 0, 0, 0, []), (80, 1, .ireturn, 0, 0, 0, [])]
def bX6_agrees_81 : List AOp := [(81, 3, .iinc 2 1, 1, 2, 0, []), (84, 3, .goto (-36), 0, 0, 0, [(48,[true,true,true])])]
def bX6_agrees_87 : List AOp := [(87, 1, .iconst 1, 1, 0, 0, []), (88, 1, .ireturn, 0, 0, 0, [])]
def blX6_agrees : List (Nat × List AOp) := [(0, bX6_agrees_0), (2, bX6_agrees_2), (10, bX6_agrees_10), (18, bX6_agrees_18), (33, bX6_agrees_33), (35, bX6_agrees_35), (41, bX6_agrees_41), (48, bX6_agrees_48), (56, bX6_agrees_56), (64, bX6_agrees_64), (79, bX6_agrees_79), (81, bX6_agrees_81), (87, bX6_agrees_87)]
def bX6_weightOf_0 : List AOp := [(0, 1, .iconst 0, 0, 0, 0, []), (1, 1, .istore_n 2, 0, 2, 0, []), (2, 1, .iconst 0, 0, 0, 0, []), (3, 1, .istore_n 3, 0, 3, 0, []), (4, 0, .nop, 0, 0, 0, [(4,[true,true,true,true])])]
def bX6_weightOf_4 : List AOp := [(4, 1, .iload_n 3, 0, 3, 0, []), (5, 1, .aload_n 0, 0, 0, 0, []), (6, 3, .getfield 95, 0, 6, 6, []), (9, 3, .if_icmp .ge 30, 0, 0, 0, [(39,[false,false,true,false]), (12,[true,true,true,true])])]
def bX6_weightOf_12 : List AOp := [(12, 1, .iload_n 2, 0, 2, 0, []), (13, 1, .iload_n 1, 0, 1, 0, []), (14, 1, .iload_n 3, 0, 3, 0, []), (15, 3, .invokestatic 130, 0, 64, 2, []), (18, 3, .ifCond .eq 12, 0, 0, 0, [(30,[true,true,false,true]), (21,[true,true,false,true])])]
def bX6_weightOf_21 : List AOp := [(21, 1, .aload_n 0, 0, 0, 0, []), (22, 3, .getfield 42, 0, 6, 15, []), (25, 1, .iload_n 3, 0, 3, 0, []), (26, 1, .iaload, 0, 0, 0, []), (27, 3, .goto 4, 0, 0, 0, [(31,[true,true,false,true])])]
def bX6_weightOf_30 : List AOp := [(30, 1, .iconst 0, 0, 0, 0, []), (31, 0, .nop, 0, 0, 0, [(31,[true,true,false,true])])]
def bX6_weightOf_31 : List AOp := [(31, 1, .iadd, 0, 0, 0, []), (32, 1, .istore_n 2, 0, 2, 0, []), (33, 3, .iinc 3 1, 1, 3, 0, []), (36, 3, .goto (-32), 0, 0, 0, [(4,[true,true,true,true])])]
def bX6_weightOf_39 : List AOp := [(39, 1, .iload_n 2, 0, 2, 0, []), (40, 1, .ireturn, 0, 0, 0, [])]
def blX6_weightOf : List (Nat × List AOp) := [(0, bX6_weightOf_0), (4, bX6_weightOf_4), (12, bX6_weightOf_12), (21, bX6_weightOf_21), (30, bX6_weightOf_30), (31, bX6_weightOf_31), (39, bX6_weightOf_39)]
def bX6_sizeOf_0 : List AOp := [(0, 1, .iconst 0, 0, 0, 0, []), (1, 1, .istore_n 1, 0, 1, 0, []), (2, 1, .iload_n 0, 0, 0, 0, []), (3, 1, .istore_n 2, 0, 2, 0, []), (4, 0, .nop, 0, 0, 0, [(4,[false,true,true])])]
def bX6_sizeOf_4 : List AOp := [(4, 1, .iload_n 2, 0, 2, 0, []), (5, 3, .ifCond .eq 15, 0, 0, 0, [(20,[false,true,false]), (8,[false,true,true])])]
def bX6_sizeOf_8 : List AOp := [(8, 3, .iinc 1 1, 1, 1, 0, []), (11, 1, .iload_n 2, 0, 2, 0, []), (12, 1, .iload_n 2, 0, 2, 0, []), (13, 1, .iconst 1, 1, 0, 0, []), (14, 1, .isub, 0, 0, 0, []), (15, 1, .iand, 0, 0, 0, []), (16, 1, .istore_n 2, 0, 2, 0, []), (17, 3, .goto (-13), 0, 0, 0, [(4,[false,true,true])])]
def bX6_sizeOf_20 : List AOp := [(20, 1, .iload_n 1, 0, 1, 0, []), (21, 1, .ireturn, 0, 0, 0, [])]
def blX6_sizeOf : List (Nat × List AOp) := [(0, bX6_sizeOf_0), (4, bX6_sizeOf_4), (8, bX6_sizeOf_8), (20, bX6_sizeOf_20)]
def bX6_works_0 : List AOp := [(0, 1, .aload_n 0, 0, 0, 0, []), (1, 3, .getfield 105, 0, 6, 30, []), (4, 3, .ifCond .eq 4, 0, 0, 0, [(8,[true,false,false,false]), (7,[false,false,false,false])])]
def bX6_works_7 : List AOp := [(7, 1, .return_, 0, 0, 0, [])]
def bX6_works_8 : List AOp := [(8, 1, .aload_n 0, 0, 0, 0, []), (9, 1, .iconst 1, 1, 0, 0, []), (10, 3, .putfield 105, 1, 6, 30, []), (13, 1, .aload_n 0, 0, 0, 0, []), (14, 3, .invokevirtual 137, 0, 76, 1, [(6,[])]), (17, 1, .iconst 1, 1, 0, 0, []), (18, 1, .aload_n 0, 0, 0, 0, []), (19, 3, .getfield 95, 0, 6, 6, []), (22, 1, .ishl, 0, 0, 0, []), (23, 1, .iconst 1, 1, 0, 0, []), (24, 1, .isub, 0, 0, 0, []), (25, 1, .istore_n 1, 0, 1, 0, []), (26, 1, .aload_n 0, 0, 0, 0, []), (27, 1, .iconst 0, 0, 0, 0, []), (28, 3, .putfield 140, 0, 6, 33, []), (31, 1, .iconst 0, 0, 0, 0, []), (32, 1, .istore_n 2, 0, 2, 0, []), (33, 0, .nop, 0, 0, 0, [(33,[true,true,true,false])])]
def bX6_works_33 : List AOp := [(33, 1, .iload_n 2, 0, 2, 0, []), (34, 1, .iload_n 1, 0, 1, 0, []), (35, 3, .if_icmp .gt 55, 0, 0, 0, [(90,[true,true,false,false]), (38,[true,true,true,false])])]
def bX6_works_38 : List AOp := [(38, 1, .aload_n 0, 0, 0, 0, []), (39, 3, .getfield 88, 0, 6, 31, []), (42, 1, .iload_n 2, 0, 2, 0, []), (43, 1, .aload_n 0, 0, 0, 0, []), (44, 1, .iload_n 2, 0, 2, 0, []), (45, 3, .invokevirtual 143, 0, 79, 2, [(6,[])]), (48, 1, .bastore, 0, 0, 0, []), (49, 1, .aload_n 0, 0, 0, 0, []), (50, 3, .getfield 88, 0, 6, 31, []), (53, 1, .iload_n 2, 0, 2, 0, []), (54, 1, .baload, 0, 0, 0, []), (55, 3, .ifCond .ne 29, 0, 0, 0, [(84,[true,true,true,false]), (58,[true,true,true,false])])]
def bX6_works_58 : List AOp := [(58, 1, .aload_n 0, 0, 0, 0, []), (59, 3, .getfield 140, 0, 6, 33, []), (62, 3, .ifCond .eq 17, 0, 0, 0, [(79,[true,true,true,false]), (65,[true,true,true,false])])]
def bX6_works_65 : List AOp := [(65, 1, .iload_n 2, 0, 2, 0, []), (66, 3, .invokestatic 146, 0, 81, 1, []), (69, 1, .aload_n 0, 0, 0, 0, []), (70, 3, .getfield 140, 0, 6, 33, []), (73, 3, .invokestatic 146, 0, 81, 1, []), (76, 3, .if_icmp .ge 8, 0, 0, 0, [(84,[true,true,true,false]), (79,[true,true,true,false])])]
def bX6_works_79 : List AOp := [(79, 1, .aload_n 0, 0, 0, 0, []), (80, 1, .iload_n 2, 0, 2, 0, []), (81, 3, .putfield 140, 0, 6, 33, []), (84, 0, .nop, 0, 0, 0, [(84,[true,true,true,false])])]
def bX6_works_84 : List AOp := [(84, 3, .iinc 2 1, 1, 2, 0, []), (87, 3, .goto (-54), 0, 0, 0, [(33,[true,true,true,false])])]
def bX6_works_90 : List AOp := [(90, 1, .aload_n 0, 0, 0, 0, []), (91, 1, .iload_n 1, 0, 1, 0, []), (92, 3, .putfield 149, 0, 6, 32, []), (95, 1, .iload_n 1, 0, 1, 0, []), (96, 1, .istore_n 2, 0, 2, 0, []), (97, 0, .nop, 0, 0, 0, [(97,[true,true,true,false])])]
def bX6_works_97 : List AOp := [(97, 1, .iload_n 2, 0, 2, 0, []), (98, 3, .ifCond .lt 67, 0, 0, 0, [(165,[true,true,false,false]), (101,[true,true,true,false])])]
def bX6_works_101 : List AOp := [(101, 1, .aload_n 0, 0, 0, 0, []), (102, 3, .getfield 88, 0, 6, 31, []), (105, 1, .iload_n 1, 0, 1, 0, []), (106, 1, .iload_n 2, 0, 2, 0, []), (107, 1, .iconst (-1), (-1), 0, 0, []), (108, 1, .ixor, 0, 0, 0, []), (109, 1, .iand, 0, 0, 0, []), (110, 1, .baload, 0, 0, 0, []), (111, 3, .ifCond .ne 6, 0, 0, 0, [(117,[true,true,true,false]), (114,[true,true,true,false])])]
def bX6_works_114 : List AOp := [(114, 3, .goto 45, 0, 0, 0, [(159,[true,true,true,false])])]
def bX6_works_117 : List AOp := [(117, 1, .aload_n 0, 0, 0, 0, []), (118, 1, .iload_n 2, 0, 2, 0, []), (119, 3, .invokevirtual 152, 0, 80, 2, [(6,[])]), (122, 1, .aload_n 0, 0, 0, 0, []), (123, 1, .aload_n 0, 0, 0, 0, []), (124, 3, .getfield 149, 0, 6, 32, []), (127, 3, .invokevirtual 152, 0, 80, 2, [(6,[])]), (130, 1, .isub, 0, 0, 0, []), (131, 1, .istore_n 3, 0, 3, 0, []), (132, 1, .iload_n 3, 0, 3, 0, []), (133, 3, .ifCond .lt 21, 0, 0, 0, [(154,[true,true,true,false]), (136,[true,true,true,true])])]
def bX6_works_136 : List AOp := [(136, 1, .iload_n 3, 0, 3, 0, []), (137, 3, .ifCond .ne 22, 0, 0, 0, [(159,[true,true,true,false]), (140,[true,true,true,false])])]
def bX6_works_140 : List AOp := [(140, 1, .iload_n 2, 0, 2, 0, []), (141, 3, .invokestatic 146, 0, 81, 1, []), (144, 1, .aload_n 0, 0, 0, 0, []), (145, 3, .getfield 149, 0, 6, 32, []), (148, 3, .invokestatic 146, 0, 81, 1, []), (151, 3, .if_icmp .gt 8, 0, 0, 0, [(159,[true,true,true,false]), (154,[true,true,true,false])])]
def bX6_works_154 : List AOp := [(154, 1, .aload_n 0, 0, 0, 0, []), (155, 1, .iload_n 2, 0, 2, 0, []), (156, 3, .putfield 149, 0, 6, 32, []), (159, 0, .nop, 0, 0, 0, [(159,[true,true,true,false])])]
def bX6_works_159 : List AOp := [(159, 3, .iinc 2 (-1), (-1), 2, 0, []), (162, 3, .goto (-65), 0, 0, 0, [(97,[true,true,true,false])])]
def bX6_works_165 : List AOp := [(165, 1, .aload_n 0, 0, 0, 0, []), (166, 1, .iload_n 1, 0, 1, 0, []), (167, 1, .aload_n 0, 0, 0, 0, []), (168, 3, .getfield 149, 0, 6, 32, []), (171, 1, .iconst (-1), (-1), 0, 0, []), (172, 1, .ixor, 0, 0, 0, []), (173, 1, .iand, 0, 0, 0, []), (174, 3, .invokevirtual 133, 0, 77, 2, [(6,[])]), (177, 1, .aload_n 0, 0, 0, 0, []), (178, 1, .iload_n 1, 0, 1, 0, []), (179, 1, .aload_n 0, 0, 0, 0, []), (180, 3, .getfield 149, 0, 6, 32, []), (183, 1, .iconst (-1), (-1), 0, 0, []), (184, 1, .ixor, 0, 0, 0, []), (185, 1, .iand, 0, 0, 0, []), (186, 3, .invokevirtual 155, 0, 78, 2, [(6,[])]), (189, 1, .return_, 0, 0, 0, [])]
def blX6_works : List (Nat × List AOp) := [(0, bX6_works_0), (7, bX6_works_7), (8, bX6_works_8), (33, bX6_works_33), (38, bX6_works_38), (58, bX6_works_58), (65, bX6_works_65), (79, bX6_works_79), (84, bX6_works_84), (90, bX6_works_90), (97, bX6_works_97), (101, bX6_works_101), (114, bX6_works_114), (117, bX6_works_117), (136, bX6_works_136), (140, bX6_works_140), (154, bX6_works_154), (159, bX6_works_159), (165, bX6_works_165)]
def bX6_isSet_0 : List AOp := [(0, 1, .iload_n 1, 0, 1, 0, []), (1, 1, .iconst 0, 0, 0, 0, []), (2, 1, .iconst 1, 1, 0, 0, []), (3, 1, .aload_n 0, 0, 0, 0, []), (4, 3, .getfield 95, 0, 6, 6, []), (7, 1, .ishl, 0, 0, 0, []), (8, 1, .iconst 1, 1, 0, 0, []), (9, 1, .isub, 0, 0, 0, []), (10, 3, .invokestatic 91, 0, 62, 3, []), (13, 1, .ireturn, 0, 0, 0, [])]
def blX6_isSet : List (Nat × List AOp) := [(0, bX6_isSet_0)]
def bX6_agree_0 : List AOp := [(0, 1, .aload_n 0, 0, 0, 0, []), (1, 1, .iload_n 1, 0, 1, 0, []), (2, 3, .invokevirtual 158, 0, 83, 2, [(6,[])]), (5, 3, .ifCond .ne 5, 0, 0, 0, [(10,[true,true]), (8,[false,false])])]
def bX6_agree_8 : List AOp := [(8, 1, .iconst (-1), (-1), 0, 0, []), (9, 1, .ireturn, 0, 0, 0, [])]
def bX6_agree_10 : List AOp := [(10, 1, .aload_n 0, 0, 0, 0, []), (11, 3, .invokevirtual 161, 0, 82, 1, [(6,[])]), (14, 1, .aload_n 0, 0, 0, 0, []), (15, 3, .getfield 88, 0, 6, 31, []), (18, 1, .iload_n 1, 0, 1, 0, []), (19, 1, .baload, 0, 0, 0, []), (20, 3, .ifCond .eq 7, 0, 0, 0, [(27,[false,false]), (23,[false,false])])]
def bX6_agree_23 : List AOp := [(23, 1, .iconst 1, 1, 0, 0, []), (24, 3, .goto 4, 0, 0, 0, [(28,[false,false])])]
def bX6_agree_27 : List AOp := [(27, 1, .iconst 0, 0, 0, 0, []), (28, 0, .nop, 0, 0, 0, [(28,[false,false])])]
def bX6_agree_28 : List AOp := [(28, 1, .ireturn, 0, 0, 0, [])]
def blX6_agree : List (Nat × List AOp) := [(0, bX6_agree_0), (8, bX6_agree_8), (10, bX6_agree_10), (23, bX6_agree_23), (27, bX6_agree_27), (28, bX6_agree_28)]
def bX6_forged_0 : List AOp := [(0, 1, .aload_n 0, 0, 0, 0, []), (1, 3, .invokevirtual 161, 0, 82, 1, [(6,[])]), (4, 1, .aload_n 0, 0, 0, 0, []), (5, 3, .getfield 149, 0, 6, 32, []), (8, 1, .ireturn, 0, 0, 0, [])]
def blX6_forged : List (Nat × List AOp) := [(0, bX6_forged_0)]
def bX6_weight_0 : List AOp := [(0, 1, .aload_n 0, 0, 0, 0, []), (1, 1, .iload_n 1, 0, 1, 0, []), (2, 3, .invokevirtual 158, 0, 83, 2, [(6,[])]), (5, 3, .ifCond .eq 11, 0, 0, 0, [(16,[false,false]), (8,[true,true])])]
def bX6_weight_8 : List AOp := [(8, 1, .aload_n 0, 0, 0, 0, []), (9, 1, .iload_n 1, 0, 1, 0, []), (10, 3, .invokevirtual 152, 0, 80, 2, [(6,[])]), (13, 3, .goto 4, 0, 0, 0, [(17,[false,false])])]
def bX6_weight_16 : List AOp := [(16, 1, .iconst (-1), (-1), 0, 0, []), (17, 0, .nop, 0, 0, 0, [(17,[false,false])])]
def bX6_weight_17 : List AOp := [(17, 1, .ireturn, 0, 0, 0, [])]
def blX6_weight : List (Nat × List AOp) := [(0, bX6_weight_0), (8, bX6_weight_8), (16, bX6_weight_16), (17, bX6_weight_17)]
def bX6_isTrue_0 : List AOp := [(0, 1, .aload_n 0, 0, 0, 0, []), (1, 3, .invokevirtual 161, 0, 82, 1, [(6,[])]), (4, 1, .aload_n 0, 0, 0, 0, []), (5, 3, .getfield 149, 0, 6, 32, []), (8, 1, .iload_n 1, 0, 1, 0, []), (9, 3, .invokestatic 130, 0, 64, 2, []), (12, 3, .ifCond .ne 7, 0, 0, 0, [(19,[false,false]), (15,[false,false])])]
def bX6_isTrue_15 : List AOp := [(15, 1, .iconst 1, 1, 0, 0, []), (16, 3, .goto 4, 0, 0, 0, [(20,[false,false])])]
def bX6_isTrue_19 : List AOp := [(19, 1, .iconst 0, 0, 0, 0, []), (20, 0, .nop, 0, 0, 0, [(20,[false,false])])]
def bX6_isTrue_20 : List AOp := [(20, 1, .ireturn, 0, 0, 0, [])]
def blX6_isTrue : List (Nat × List AOp) := [(0, bX6_isTrue_0), (15, bX6_isTrue_15), (19, bX6_isTrue_19), (20, bX6_isTrue_20)]
def bX6_year_0 : List AOp := [(0, 1, .aload_n 0, 0, 0, 0, []), (1, 1, .iload_n 1, 0, 1, 0, []), (2, 3, .invokevirtual 115, 0, 65, 2, [(6,[])]), (5, 3, .ifCond .eq 20, 0, 0, 0, [(25,[false,false,false]), (8,[true,true,true])])]
def bX6_year_8 : List AOp := [(8, 1, .iload_n 2, 0, 2, 0, []), (9, 1, .iconst 0, 0, 0, 0, []), (10, 1, .iconst 1, 1, 0, 0, []), (11, 3, .invokestatic 91, 0, 62, 3, []), (14, 3, .ifCond .eq 11, 0, 0, 0, [(25,[false,false,false]), (17,[true,true,true])])]
def bX6_year_17 : List AOp := [(17, 1, .aload_n 0, 0, 0, 0, []), (18, 1, .iload_n 1, 0, 1, 0, []), (19, 3, .invokevirtual 164, 0, 87, 2, [(6,[])]), (22, 3, .ifCond .ne 7, 0, 0, 0, [(29,[true,true,true]), (25,[false,false,false])])]
def bX6_year_25 : List AOp := [(25, 1, .iconst (-1), (-1), 0, 0, []), (26, 3, .goto 22, 0, 0, 0, [(48,[false,false,false])])]
def bX6_year_29 : List AOp := [(29, 1, .iload_n 2, 0, 2, 0, []), (30, 3, .ifCond .ne 12, 0, 0, 0, [(42,[true,true,false]), (33,[true,true,false])])]
def bX6_year_33 : List AOp := [(33, 1, .aload_n 0, 0, 0, 0, []), (34, 3, .getfield 82, 0, 6, 28, []), (37, 1, .iload_n 1, 0, 1, 0, []), (38, 1, .iaload, 0, 0, 0, []), (39, 3, .goto 9, 0, 0, 0, [(48,[false,false,false])])]
def bX6_year_42 : List AOp := [(42, 1, .aload_n 0, 0, 0, 0, []), (43, 3, .getfield 85, 0, 6, 29, []), (46, 1, .iload_n 1, 0, 1, 0, []), (47, 1, .iaload, 0, 0, 0, []), (48, 0, .nop, 0, 0, 0, [(48,[false,false,false])])]
def bX6_year_48 : List AOp := [(48, 1, .ireturn, 0, 0, 0, [])]
def blX6_year : List (Nat × List AOp) := [(0, bX6_year_0), (8, bX6_year_8), (17, bX6_year_17), (25, bX6_year_25), (29, bX6_year_29), (33, bX6_year_33), (42, bX6_year_42), (48, bX6_year_48)]
def bX6_quarrel_0 : List AOp := [(0, 1, .aload_n 0, 0, 0, 0, []), (1, 3, .invokevirtual 161, 0, 82, 1, [(6,[])]), (4, 1, .aload_n 0, 0, 0, 0, []), (5, 3, .getfield 140, 0, 6, 33, []), (8, 1, .ireturn, 0, 0, 0, [])]
def blX6_quarrel : List (Nat × List AOp) := [(0, bX6_quarrel_0)]
def bX6_sure_0 : List AOp := [(0, 1, .iload_n 1, 0, 1, 0, []), (1, 1, .iconst 0, 0, 0, 0, []), (2, 1, .aload_n 0, 0, 0, 0, []), (3, 3, .getfield 98, 0, 6, 3, []), (6, 1, .iconst 1, 1, 0, 0, []), (7, 1, .isub, 0, 0, 0, []), (8, 3, .invokestatic 91, 0, 62, 3, []), (11, 3, .ifCond .eq 12, 0, 0, 0, [(23,[false,false,false,false,false,false]), (14,[true,true,true,false,false,false])])]
def bX6_sure_14 : List AOp := [(14, 1, .iload_n 2, 0, 2, 0, []), (15, 1, .iconst 0, 0, 0, 0, []), (16, 1, .iconst 1, 1, 0, 0, []), (17, 3, .invokestatic 91, 0, 62, 3, []), (20, 3, .ifCond .ne 5, 0, 0, 0, [(25,[true,true,true,false,false,false]), (23,[false,false,false,false,false,false])])]
def bX6_sure_23 : List AOp := [(23, 1, .iconst (-1), (-1), 0, 0, []), (24, 1, .ireturn, 0, 0, 0, [])]
def bX6_sure_25 : List AOp := [(25, 1, .iconst (-1), (-1), 0, 0, []), (26, 1, .istore_n 3, 0, 3, 0, []), (27, 1, .iconst (-1), (-1), 0, 0, []), (28, 2, .istore 4, 0, 4, 0, []), (30, 1, .iconst 0, 0, 0, 0, []), (31, 2, .istore 5, 0, 5, 0, []), (33, 0, .nop, 0, 0, 0, [(33,[true,true,true,true,true,true])])]
def bX6_sure_33 : List AOp := [(33, 2, .iload 5, 0, 5, 0, []), (35, 1, .aload_n 0, 0, 0, 0, []), (36, 3, .getfield 95, 0, 6, 6, []), (39, 3, .if_icmp .ge 92, 0, 0, 0, [(131,[false,false,true,true,true,false]), (42,[true,true,true,true,true,true])])]
def bX6_sure_42 : List AOp := [(42, 1, .aload_n 0, 0, 0, 0, []), (43, 2, .iload 5, 0, 5, 0, []), (45, 3, .invokevirtual 164, 0, 87, 2, [(6,[])]), (48, 3, .ifCond .eq 77, 0, 0, 0, [(125,[true,true,true,true,true,true]), (51,[true,true,true,true,true,true])])]
def bX6_sure_51 : List AOp := [(51, 1, .aload_n 0, 0, 0, 0, []), (52, 2, .iload 5, 0, 5, 0, []), (54, 1, .iconst 0, 0, 0, 0, []), (55, 1, .iload_n 1, 0, 1, 0, []), (56, 3, .invokevirtual 123, 0, 73, 4, [(6,[])]), (59, 3, .ifCond .ne 6, 0, 0, 0, [(65,[true,true,true,true,true,true]), (62,[true,true,true,true,true,true])])]
def bX6_sure_62 : List AOp := [(62, 3, .goto 63, 0, 0, 0, [(125,[true,true,true,true,true,true])])]
def bX6_sure_65 : List AOp := [(65, 1, .iload_n 3, 0, 3, 0, []), (66, 1, .iconst (-1), (-1), 0, 0, []), (67, 3, .if_icmp .eq 14, 0, 0, 0, [(81,[true,true,true,false,true,true]), (70,[true,true,true,true,true,true])])]
def bX6_sure_70 : List AOp := [(70, 1, .aload_n 0, 0, 0, 0, []), (71, 3, .getfield 85, 0, 6, 29, []), (74, 2, .iload 5, 0, 5, 0, []), (76, 1, .iaload, 0, 0, 0, []), (77, 1, .iload_n 3, 0, 3, 0, []), (78, 3, .if_icmp .ge 13, 0, 0, 0, [(91,[true,true,true,true,true,true]), (81,[true,true,true,false,true,true])])]
def bX6_sure_81 : List AOp := [(81, 1, .aload_n 0, 0, 0, 0, []), (82, 3, .getfield 85, 0, 6, 29, []), (85, 2, .iload 5, 0, 5, 0, []), (87, 1, .iaload, 0, 0, 0, []), (88, 3, .goto 4, 0, 0, 0, [(92,[true,true,true,false,true,true])])]
def bX6_sure_91 : List AOp := [(91, 1, .iload_n 3, 0, 3, 0, []), (92, 0, .nop, 0, 0, 0, [(92,[true,true,true,false,true,true])])]
def bX6_sure_92 : List AOp := [(92, 1, .istore_n 3, 0, 3, 0, []), (93, 2, .iload 4, 0, 4, 0, []), (95, 1, .iconst (-1), (-1), 0, 0, []), (96, 3, .if_icmp .eq 15, 0, 0, 0, [(111,[true,true,true,true,false,true]), (99,[true,true,true,true,true,true])])]
def bX6_sure_99 : List AOp := [(99, 1, .aload_n 0, 0, 0, 0, []), (100, 3, .getfield 82, 0, 6, 28, []), (103, 2, .iload 5, 0, 5, 0, []), (105, 1, .iaload, 0, 0, 0, []), (106, 2, .iload 4, 0, 4, 0, []), (108, 3, .if_icmp .le 13, 0, 0, 0, [(121,[true,true,true,true,true,true]), (111,[true,true,true,true,false,true])])]
def bX6_sure_111 : List AOp := [(111, 1, .aload_n 0, 0, 0, 0, []), (112, 3, .getfield 82, 0, 6, 28, []), (115, 2, .iload 5, 0, 5, 0, []), (117, 1, .iaload, 0, 0, 0, []), (118, 3, .goto 5, 0, 0, 0, [(123,[true,true,true,true,false,true])])]
def bX6_sure_121 : List AOp := [(121, 2, .iload 4, 0, 4, 0, []), (123, 0, .nop, 0, 0, 0, [(123,[true,true,true,true,false,true])])]
def bX6_sure_123 : List AOp := [(123, 2, .istore 4, 0, 4, 0, []), (125, 0, .nop, 0, 0, 0, [(125,[true,true,true,true,true,true])])]
def bX6_sure_125 : List AOp := [(125, 3, .iinc 5 1, 1, 5, 0, []), (128, 3, .goto (-95), 0, 0, 0, [(33,[true,true,true,true,true,true])])]
def bX6_sure_131 : List AOp := [(131, 1, .iload_n 3, 0, 3, 0, []), (132, 1, .iconst (-1), (-1), 0, 0, []), (133, 3, .if_icmp .eq 9, 0, 0, 0, [(142,[false,false,false,false,false,false]), (136,[false,false,true,true,true,false])])]
def bX6_sure_136 : List AOp := [(136, 2, .iload 4, 0, 4, 0, []), (138, 1, .iload_n 3, 0, 3, 0, []), (139, 3, .if_icmp .ge 7, 0, 0, 0, [(146,[false,false,true,true,true,false]), (142,[false,false,false,false,false,false])])]
def bX6_sure_142 : List AOp := [(142, 1, .iconst (-1), (-1), 0, 0, []), (143, 3, .goto 13, 0, 0, 0, [(156,[false,false,false,false,false,false])])]
def bX6_sure_146 : List AOp := [(146, 1, .iload_n 2, 0, 2, 0, []), (147, 3, .ifCond .ne 7, 0, 0, 0, [(154,[false,false,false,false,true,false]), (150,[false,false,false,true,false,false])])]
def bX6_sure_150 : List AOp := [(150, 1, .iload_n 3, 0, 3, 0, []), (151, 3, .goto 5, 0, 0, 0, [(156,[false,false,false,false,false,false])])]
def bX6_sure_154 : List AOp := [(154, 2, .iload 4, 0, 4, 0, []), (156, 0, .nop, 0, 0, 0, [(156,[false,false,false,false,false,false])])]
def bX6_sure_156 : List AOp := [(156, 1, .ireturn, 0, 0, 0, [])]
def blX6_sure : List (Nat × List AOp) := [(0, bX6_sure_0), (14, bX6_sure_14), (23, bX6_sure_23), (25, bX6_sure_25), (33, bX6_sure_33), (42, bX6_sure_42), (51, bX6_sure_51), (62, bX6_sure_62), (65, bX6_sure_65), (70, bX6_sure_70), (81, bX6_sure_81), (91, bX6_sure_91), (92, bX6_sure_92), (99, bX6_sure_99), (111, bX6_sure_111), (121, bX6_sure_121), (123, bX6_sure_123), (125, bX6_sure_125), (131, bX6_sure_131), (136, bX6_sure_136), (142, bX6_sure_142), (146, bX6_sure_146), (150, bX6_sure_150), (154, bX6_sure_154), (156, bX6_sure_156)]
def bX6_push_0 : List AOp := [(0, 2, .bipush 24, 24, 0, 0, []), (2, 1, .istore_n 2, 0, 2, 0, []), (3, 0, .nop, 0, 0, 0, [(3,[true,true,true])])]
def bX6_push_3 : List AOp := [(3, 1, .iload_n 2, 0, 2, 0, []), (4, 3, .ifCond .lt 32, 0, 0, 0, [(36,[false,false,false]), (7,[true,true,true])])]
def bX6_push_7 : List AOp := [(7, 1, .aload_n 0, 0, 0, 0, []), (8, 3, .getfield 7, 0, 6, 0, []), (11, 1, .aload_n 0, 0, 0, 0, []), (12, 3, .getfield 167, 0, 6, 1, []), (15, 1, .iload_n 1, 0, 1, 0, []), (16, 1, .iload_n 2, 0, 2, 0, []), (17, 1, .ishr, 0, 0, 0, []), (18, 1, .i2b, 0, 0, 0, []), (19, 1, .bastore, 0, 0, 0, []), (20, 1, .aload_n 0, 0, 0, 0, []), (21, 1, .dup, 0, 0, 0, []), (22, 3, .getfield 167, 0, 6, 1, []), (25, 1, .iconst 1, 1, 0, 0, []), (26, 1, .iadd, 0, 0, 0, []), (27, 3, .putfield 167, 0, 6, 1, []), (30, 3, .iinc 2 (-8), (-8), 2, 0, []), (33, 3, .goto (-30), 0, 0, 0, [(3,[true,true,true])])]
def bX6_push_36 : List AOp := [(36, 1, .return_, 0, 0, 0, [])]
def blX6_push : List (Nat × List AOp) := [(0, bX6_push_0), (3, bX6_push_3), (7, bX6_push_7), (36, bX6_push_36)]
def bX6_feed_0 : List AOp := [(0, 1, .aload_n 0, 0, 0, 0, []), (1, 3, .getfield 167, 0, 6, 1, []), (4, 2, .bipush 20, 20, 0, 0, []), (6, 1, .iadd, 0, 0, 0, []), (7, 2, .bipush 40, 40, 0, 0, []), (9, 3, .if_icmp .le 5, 0, 0, 0, [(14,[true,true,true,true,true,true]), (12,[false,false,false,false,false,false])])]
def bX6_feed_12 : List AOp := [(12, 1, .iconst (-1), (-1), 0, 0, []), (13, 1, .ireturn, 0, 0, 0, [])]
def bX6_feed_14 : List AOp := [(14, 1, .aload_n 0, 0, 0, 0, []), (15, 1, .iload_n 1, 0, 1, 0, []), (16, 3, .invokevirtual 170, 0, 91, 2, [(6,[])]), (19, 1, .aload_n 0, 0, 0, 0, []), (20, 1, .iload_n 2, 0, 2, 0, []), (21, 3, .invokevirtual 170, 0, 91, 2, [(6,[])]), (24, 1, .aload_n 0, 0, 0, 0, []), (25, 1, .iload_n 3, 0, 3, 0, []), (26, 3, .invokevirtual 170, 0, 91, 2, [(6,[])]), (29, 1, .aload_n 0, 0, 0, 0, []), (30, 2, .iload 4, 0, 4, 0, []), (32, 3, .invokevirtual 170, 0, 91, 2, [(6,[])]), (35, 1, .aload_n 0, 0, 0, 0, []), (36, 2, .iload 5, 0, 5, 0, []), (38, 3, .invokevirtual 170, 0, 91, 2, [(6,[])]), (41, 1, .aload_n 0, 0, 0, 0, []), (42, 3, .getfield 167, 0, 6, 1, []), (45, 1, .ireturn, 0, 0, 0, [])]
def blX6_feed : List (Nat × List AOp) := [(0, bX6_feed_0), (12, bX6_feed_12), (14, bX6_feed_14)]
def bX6_words_0 : List AOp := [(0, 1, .aload_n 0, 0, 0, 0, []), (1, 1, .iload_n 1, 0, 1, 0, []), (2, 3, .invokevirtual 115, 0, 65, 2, [(6,[])]), (5, 3, .ifCond .eq 21, 0, 0, 0, [(26,[false,false,false,false]), (8,[true,true,true,false])])]
def bX6_words_8 : List AOp := [(8, 1, .iload_n 2, 0, 2, 0, []), (9, 1, .iconst 0, 0, 0, 0, []), (10, 2, .bipush 20, 20, 0, 0, []), (12, 3, .invokestatic 91, 0, 62, 3, []), (15, 3, .ifCond .eq 11, 0, 0, 0, [(26,[false,false,false,false]), (18,[true,true,true,false])])]
def bX6_words_18 : List AOp := [(18, 1, .iload_n 2, 0, 2, 0, []), (19, 1, .aload_n 0, 0, 0, 0, []), (20, 3, .getfield 167, 0, 6, 1, []), (23, 3, .if_icmp .le 5, 0, 0, 0, [(28,[true,true,true,false]), (26,[false,false,false,false])])]
def bX6_words_26 : List AOp := [(26, 1, .iconst 0, 0, 0, 0, []), (27, 1, .ireturn, 0, 0, 0, [])]
def bX6_words_28 : List AOp := [(28, 1, .aload_n 0, 0, 0, 0, []), (29, 1, .iconst 0, 0, 0, 0, []), (30, 3, .putfield 167, 0, 6, 1, []), (33, 1, .iconst 0, 0, 0, 0, []), (34, 1, .istore_n 3, 0, 3, 0, []), (35, 0, .nop, 0, 0, 0, [(35,[true,true,true,true])])]
def bX6_words_35 : List AOp := [(35, 1, .iload_n 3, 0, 3, 0, []), (36, 1, .iload_n 2, 0, 2, 0, []), (37, 3, .if_icmp .ge 27, 0, 0, 0, [(64,[true,true,true,false]), (40,[true,true,true,true])])]
def bX6_words_40 : List AOp := [(40, 1, .aload_n 0, 0, 0, 0, []), (41, 3, .getfield 7, 0, 6, 0, []), (44, 1, .iload_n 3, 0, 3, 0, []), (45, 1, .baload, 0, 0, 0, []), (46, 2, .bipush 97, 97, 0, 0, []), (48, 2, .bipush 122, 122, 0, 0, []), (50, 3, .invokestatic 91, 0, 62, 3, []), (53, 3, .ifCond .ne 5, 0, 0, 0, [(58,[true,true,true,true]), (56,[false,false,false,false])])]
def bX6_words_56 : List AOp := [(56, 1, .iconst 0, 0, 0, 0, []), (57, 1, .ireturn, 0, 0, 0, [])]
def bX6_words_58 : List AOp := [(58, 3, .iinc 3 1, 1, 3, 0, []), (61, 3, .goto (-26), 0, 0, 0, [(35,[true,true,true,true])])]
def bX6_words_64 : List AOp := [(64, 1, .aload_n 0, 0, 0, 0, []), (65, 3, .getfield 54, 0, 6, 19, []), (68, 1, .iload_n 1, 0, 1, 0, []), (69, 1, .iload_n 2, 0, 2, 0, []), (70, 1, .iastore, 0, 0, 0, []), (71, 1, .iconst 0, 0, 0, 0, []), (72, 1, .istore_n 3, 0, 3, 0, []), (73, 0, .nop, 0, 0, 0, [(73,[true,true,true,true])])]
def bX6_words_73 : List AOp := [(73, 1, .iload_n 3, 0, 3, 0, []), (74, 1, .iload_n 2, 0, 2, 0, []), (75, 3, .if_icmp .ge 26, 0, 0, 0, [(101,[false,false,false,false]), (78,[true,true,true,true])])]
def bX6_words_78 : List AOp := [(78, 1, .aload_n 0, 0, 0, 0, []), (79, 3, .getfield 57, 0, 6, 20, []), (82, 2, .bipush 20, 20, 0, 0, []), (84, 1, .iload_n 1, 0, 1, 0, []), (85, 1, .imul, 0, 0, 0, []), (86, 1, .iload_n 3, 0, 3, 0, []), (87, 1, .iadd, 0, 0, 0, []), (88, 1, .aload_n 0, 0, 0, 0, []), (89, 3, .getfield 7, 0, 6, 0, []), (92, 1, .iload_n 3, 0, 3, 0, []), (93, 1, .baload, 0, 0, 0, []), (94, 1, .bastore, 0, 0, 0, []), (95, 3, .iinc 3 1, 1, 3, 0, []), (98, 3, .goto (-25), 0, 0, 0, [(73,[true,true,true,true])])]
def bX6_words_101 : List AOp := [(101, 1, .iconst 1, 1, 0, 0, []), (102, 1, .ireturn, 0, 0, 0, [])]
def blX6_words : List (Nat × List AOp) := [(0, bX6_words_0), (8, bX6_words_8), (18, bX6_words_18), (26, bX6_words_26), (28, bX6_words_28), (35, bX6_words_35), (40, bX6_words_40), (56, bX6_words_56), (58, bX6_words_58), (64, bX6_words_64), (73, bX6_words_73), (78, bX6_words_78), (101, bX6_words_101)]
def bX6_alike_0 : List AOp := [(0, 1, .iconst 0, 0, 0, 0, []), (1, 2, .istore 5, 0, 5, 0, []), (3, 0, .nop, 0, 0, 0, [(3,[true,true,true,true,true,true])])]
def bX6_alike_3 : List AOp := [(3, 1, .iload_n 2, 0, 2, 0, []), (4, 2, .iload 5, 0, 5, 0, []), (6, 1, .iadd, 0, 0, 0, []), (7, 1, .aload_n 0, 0, 0, 0, []), (8, 3, .getfield 54, 0, 6, 19, []), (11, 1, .iload_n 1, 0, 1, 0, []), (12, 1, .iaload, 0, 0, 0, []), (13, 3, .if_icmp .ge 55, 0, 0, 0, [(68,[false,false,false,false,false,true]), (16,[true,true,true,true,true,true])])]
def bX6_alike_16 : List AOp := [(16, 2, .iload 4, 0, 4, 0, []), (18, 2, .iload 5, 0, 5, 0, []), (20, 1, .iadd, 0, 0, 0, []), (21, 1, .aload_n 0, 0, 0, 0, []), (22, 3, .getfield 54, 0, 6, 19, []), (25, 1, .iload_n 3, 0, 3, 0, []), (26, 1, .iaload, 0, 0, 0, []), (27, 3, .if_icmp .ge 41, 0, 0, 0, [(68,[false,false,false,false,false,true]), (30,[true,true,true,true,true,true])])]
def bX6_alike_30 : List AOp := [(30, 1, .aload_n 0, 0, 0, 0, []), (31, 3, .getfield 57, 0, 6, 20, []), (34, 2, .bipush 20, 20, 0, 0, []), (36, 1, .iload_n 1, 0, 1, 0, []), (37, 1, .imul, 0, 0, 0, []), (38, 1, .iload_n 2, 0, 2, 0, []), (39, 1, .iadd, 0, 0, 0, []), (40, 2, .iload 5, 0, 5, 0, []), (42, 1, .iadd, 0, 0, 0, []), (43, 1, .baload, 0, 0, 0, []), (44, 1, .aload_n 0, 0, 0, 0, []), (45, 3, .getfield 57, 0, 6, 20, []), (48, 2, .bipush 20, 20, 0, 0, []), (50, 1, .iload_n 3, 0, 3, 0, []), (51, 1, .imul, 0, 0, 0, []), (52, 2, .iload 4, 0, 4, 0, []), (54, 1, .iadd, 0, 0, 0, []), (55, 2, .iload 5, 0, 5, 0, []), (57, 1, .iadd, 0, 0, 0, []), (58, 1, .baload, 0, 0, 0, []), (59, 3, .if_icmp .ne 9, 0, 0, 0, [(68,[false,false,false,false,false,true]), (62,[true,true,true,true,true,true])])]
def bX6_alike_62 : List AOp := [(62, 3, .iinc 5 1, 1, 5, 0, []), (65, 3, .goto (-62), 0, 0, 0, [(3,[true,true,true,true,true,true])])]
def bX6_alike_68 : List AOp := [(68, 2, .iload 5, 0, 5, 0, []), (70, 1, .ireturn, 0, 0, 0, [])]
def blX6_alike : List (Nat × List AOp) := [(0, bX6_alike_0), (3, bX6_alike_3), (16, bX6_alike_16), (30, bX6_alike_30), (62, bX6_alike_62), (68, bX6_alike_68)]
def bX6_model_0 : List AOp := [(0, 1, .aload_n 0, 0, 0, 0, []), (1, 1, .iload_n 1, 0, 1, 0, []), (2, 3, .invokevirtual 115, 0, 65, 2, [(6,[])]), (5, 3, .ifCond .eq 12, 0, 0, 0, [(17,[false,false,false,false,false,false,false,false,false,false,false]), (8,[true,true,true,false,false,false,false,false,false,false,false])])]
def bX6_model_8 : List AOp := [(8, 1, .iload_n 2, 0, 2, 0, []), (9, 1, .iconst 0, 0, 0, 0, []), (10, 1, .iconst 3, 3, 0, 0, []), (11, 3, .invokestatic 91, 0, 62, 3, []), (14, 3, .ifCond .ne 5, 0, 0, 0, [(19,[true,true,true,false,false,false,false,false,false,false,false]), (17,[false,false,false,false,false,false,false,false,false,false,false])])]
def bX6_model_17 : List AOp := [(17, 1, .iconst (-1), (-1), 0, 0, []), (18, 1, .ireturn, 0, 0, 0, [])]
def bX6_model_19 : List AOp := [(19, 1, .iconst 3, 3, 0, 0, []), (20, 1, .istore_n 3, 0, 3, 0, []), (21, 1, .iconst (-1), (-1), 0, 0, []), (22, 2, .istore 4, 0, 4, 0, []), (24, 1, .iconst 0, 0, 0, 0, []), (25, 2, .istore 5, 0, 5, 0, []), (27, 1, .iconst 0, 0, 0, 0, []), (28, 2, .istore 6, 0, 6, 0, []), (30, 1, .iconst 0, 0, 0, 0, []), (31, 2, .istore 7, 0, 7, 0, []), (33, 0, .nop, 0, 0, 0, [(33,[true,true,true,true,true,true,true,true,false,false,false])])]
def bX6_model_33 : List AOp := [(33, 2, .iload 7, 0, 7, 0, []), (35, 1, .aload_n 0, 0, 0, 0, []), (36, 3, .getfield 95, 0, 6, 6, []), (39, 3, .if_icmp .ge 93, 0, 0, 0, [(132,[false,false,true,true,true,true,true,false,false,false,false]), (42,[true,true,true,true,true,true,true,true,false,false,false])])]
def bX6_model_42 : List AOp := [(42, 1, .iconst 0, 0, 0, 0, []), (43, 2, .istore 8, 0, 8, 0, []), (45, 0, .nop, 0, 0, 0, [(45,[true,true,true,true,true,true,true,true,true,false,false])])]
def bX6_model_45 : List AOp := [(45, 2, .iload 8, 0, 8, 0, []), (47, 1, .aload_n 0, 0, 0, 0, []), (48, 3, .getfield 54, 0, 6, 19, []), (51, 1, .iload_n 1, 0, 1, 0, []), (52, 1, .iaload, 0, 0, 0, []), (53, 3, .if_icmp .ge 73, 0, 0, 0, [(126,[true,true,true,true,true,true,true,true,false,false,false]), (56,[true,true,true,true,true,true,true,true,true,false,false])])]
def bX6_model_56 : List AOp := [(56, 2, .iload 7, 0, 7, 0, []), (58, 1, .iload_n 1, 0, 1, 0, []), (59, 3, .if_icmp .eq 67, 0, 0, 0, [(126,[true,true,true,true,true,true,true,true,false,false,false]), (62,[true,true,true,true,true,true,true,true,true,false,false])])]
def bX6_model_62 : List AOp := [(62, 1, .iconst 0, 0, 0, 0, []), (63, 2, .istore 9, 0, 9, 0, []), (65, 0, .nop, 0, 0, 0, [(65,[true,true,true,true,true,true,true,true,true,true,false])])]
def bX6_model_65 : List AOp := [(65, 2, .iload 9, 0, 9, 0, []), (67, 1, .aload_n 0, 0, 0, 0, []), (68, 3, .getfield 54, 0, 6, 19, []), (71, 2, .iload 7, 0, 7, 0, []), (73, 1, .iaload, 0, 0, 0, []), (74, 3, .if_icmp .ge 46, 0, 0, 0, [(120,[true,true,true,true,true,true,true,true,true,false,false]), (77,[true,true,true,true,true,true,true,true,true,true,false])])]
def bX6_model_77 : List AOp := [(77, 1, .aload_n 0, 0, 0, 0, []), (78, 1, .iload_n 1, 0, 1, 0, []), (79, 2, .iload 8, 0, 8, 0, []), (81, 2, .iload 7, 0, 7, 0, []), (83, 2, .iload 9, 0, 9, 0, []), (85, 3, .invokevirtual 173, 0, 94, 5, [(6,[])]), (88, 2, .istore 10, 0, 10, 0, []), (90, 2, .iload 10, 0, 10, 0, []), (92, 1, .iload_n 3, 0, 3, 0, []), (93, 3, .if_icmp .gt 6, 0, 0, 0, [(99,[true,true,true,false,false,false,false,true,true,true,true]), (96,[true,true,true,true,true,true,true,true,true,true,false])])]
def bX6_model_96 : List AOp := [(96, 3, .goto 18, 0, 0, 0, [(114,[true,true,true,true,true,true,true,true,true,true,false])])]
def bX6_model_99 : List AOp := [(99, 2, .iload 10, 0, 10, 0, []), (101, 1, .istore_n 3, 0, 3, 0, []), (102, 2, .iload 7, 0, 7, 0, []), (104, 2, .istore 4, 0, 4, 0, []), (106, 2, .iload 8, 0, 8, 0, []), (108, 2, .istore 5, 0, 5, 0, []), (110, 2, .iload 9, 0, 9, 0, []), (112, 2, .istore 6, 0, 6, 0, []), (114, 0, .nop, 0, 0, 0, [(114,[true,true,true,true,true,true,true,true,true,true,false])])]
def bX6_model_114 : List AOp := [(114, 3, .iinc 9 1, 1, 9, 0, []), (117, 3, .goto (-52), 0, 0, 0, [(65,[true,true,true,true,true,true,true,true,true,true,false])])]
def bX6_model_120 : List AOp := [(120, 3, .iinc 8 1, 1, 8, 0, []), (123, 3, .goto (-78), 0, 0, 0, [(45,[true,true,true,true,true,true,true,true,true,false,false])])]
def bX6_model_126 : List AOp := [(126, 3, .iinc 7 1, 1, 7, 0, []), (129, 3, .goto (-96), 0, 0, 0, [(33,[true,true,true,true,true,true,true,true,false,false,false])])]
def bX6_model_132 : List AOp := [(132, 2, .iload 4, 0, 4, 0, []), (134, 1, .iconst (-1), (-1), 0, 0, []), (135, 3, .if_icmp .ne 5, 0, 0, 0, [(140,[false,false,true,true,true,true,true,false,false,false,false]), (138,[false,false,false,false,false,false,false,false,false,false,false])])]
def bX6_model_138 : List AOp := [(138, 1, .iconst (-1), (-1), 0, 0, []), (139, 1, .ireturn, 0, 0, 0, [])]
def bX6_model_140 : List AOp := [(140, 1, .iload_n 2, 0, 2, 0, []), (141, 3, .ifCond .ne 8, 0, 0, 0, [(149,[false,false,true,true,false,true,true,false,false,false,false]), (144,[false,false,false,false,true,false,false,false,false,false,false])])]
def bX6_model_144 : List AOp := [(144, 2, .iload 4, 0, 4, 0, []), (146, 3, .goto 24, 0, 0, 0, [(170,[false,false,false,false,false,false,false,false,false,false,false])])]
def bX6_model_149 : List AOp := [(149, 1, .iload_n 2, 0, 2, 0, []), (150, 1, .iconst 1, 1, 0, 0, []), (151, 3, .if_icmp .ne 7, 0, 0, 0, [(158,[false,false,true,false,false,true,true,false,false,false,false]), (154,[false,false,false,true,false,false,false,false,false,false,false])])]
def bX6_model_154 : List AOp := [(154, 1, .iload_n 3, 0, 3, 0, []), (155, 3, .goto 15, 0, 0, 0, [(170,[false,false,false,false,false,false,false,false,false,false,false])])]
def bX6_model_158 : List AOp := [(158, 1, .iload_n 2, 0, 2, 0, []), (159, 1, .iconst 2, 2, 0, 0, []), (160, 3, .if_icmp .ne 8, 0, 0, 0, [(168,[false,false,false,false,false,false,true,false,false,false,false]), (163,[false,false,false,false,false,true,false,false,false,false,false])])]
def bX6_model_163 : List AOp := [(163, 2, .iload 5, 0, 5, 0, []), (165, 3, .goto 5, 0, 0, 0, [(170,[false,false,false,false,false,false,false,false,false,false,false])])]
def bX6_model_168 : List AOp := [(168, 2, .iload 6, 0, 6, 0, []), (170, 0, .nop, 0, 0, 0, [(170,[false,false,false,false,false,false,false,false,false,false,false])])]
def bX6_model_170 : List AOp := [(170, 1, .ireturn, 0, 0, 0, [])]
def blX6_model : List (Nat × List AOp) := [(0, bX6_model_0), (8, bX6_model_8), (17, bX6_model_17), (19, bX6_model_19), (33, bX6_model_33), (42, bX6_model_42), (45, bX6_model_45), (56, bX6_model_56), (62, bX6_model_62), (65, bX6_model_65), (77, bX6_model_77), (96, bX6_model_96), (99, bX6_model_99), (114, bX6_model_114), (120, bX6_model_120), (126, bX6_model_126), (132, bX6_model_132), (138, bX6_model_138), (140, bX6_model_140), (144, bX6_model_144), (149, bX6_model_149), (154, bX6_model_154), (158, bX6_model_158), (163, bX6_model_163), (168, bX6_model_168), (170, bX6_model_170)]
def bX6_claim_0 : List AOp := [(0, 1, .aload_n 0, 0, 0, 0, []), (1, 1, .iload_n 1, 0, 1, 0, []), (2, 3, .invokevirtual 115, 0, 65, 2, [(6,[])]), (5, 3, .ifCond .eq 23, 0, 0, 0, [(28,[false,false,false,false]), (8,[true,true,true,true])])]
def bX6_claim_8 : List AOp := [(8, 1, .iload_n 2, 0, 2, 0, []), (9, 1, .iconst 0, 0, 0, 0, []), (10, 1, .iconst 3, 3, 0, 0, []), (11, 3, .invokestatic 91, 0, 62, 3, []), (14, 3, .ifCond .eq 14, 0, 0, 0, [(28,[false,false,false,false]), (17,[true,true,true,true])])]
def bX6_claim_17 : List AOp := [(17, 1, .iload_n 3, 0, 3, 0, []), (18, 1, .iconst 0, 0, 0, 0, []), (19, 3, .sipush 1023, 1023, 0, 0, []), (22, 3, .invokestatic 91, 0, 62, 3, []), (25, 3, .ifCond .ne 5, 0, 0, 0, [(30,[true,true,true,true]), (28,[false,false,false,false])])]
def bX6_claim_28 : List AOp := [(28, 1, .iconst 0, 0, 0, 0, []), (29, 1, .ireturn, 0, 0, 0, [])]
def bX6_claim_30 : List AOp := [(30, 1, .aload_n 0, 0, 0, 0, []), (31, 3, .getfield 60, 0, 6, 21, []), (34, 1, .iload_n 1, 0, 1, 0, []), (35, 1, .iload_n 2, 0, 2, 0, []), (36, 1, .iastore, 0, 0, 0, []), (37, 1, .aload_n 0, 0, 0, 0, []), (38, 3, .getfield 63, 0, 6, 22, []), (41, 1, .iload_n 1, 0, 1, 0, []), (42, 1, .iload_n 3, 0, 3, 0, []), (43, 1, .iastore, 0, 0, 0, []), (44, 1, .iconst 1, 1, 0, 0, []), (45, 1, .ireturn, 0, 0, 0, [])]
def blX6_claim : List (Nat × List AOp) := [(0, bX6_claim_0), (8, bX6_claim_8), (17, bX6_claim_17), (28, bX6_claim_28), (30, bX6_claim_30)]
def bX6_both_0 : List AOp := [(0, 1, .aload_n 0, 0, 0, 0, []), (1, 3, .getfield 60, 0, 6, 21, []), (4, 1, .iload_n 1, 0, 1, 0, []), (5, 1, .iaload, 0, 0, 0, []), (6, 1, .iconst (-1), (-1), 0, 0, []), (7, 3, .if_icmp .eq 44, 0, 0, 0, [(51,[false,false,false]), (10,[true,true,true])])]
def bX6_both_10 : List AOp := [(10, 1, .aload_n 0, 0, 0, 0, []), (11, 3, .getfield 60, 0, 6, 21, []), (14, 1, .iload_n 2, 0, 2, 0, []), (15, 1, .iaload, 0, 0, 0, []), (16, 1, .iconst (-1), (-1), 0, 0, []), (17, 3, .if_icmp .eq 34, 0, 0, 0, [(51,[false,false,false]), (20,[true,true,true])])]
def bX6_both_20 : List AOp := [(20, 1, .aload_n 0, 0, 0, 0, []), (21, 3, .getfield 60, 0, 6, 21, []), (24, 1, .iload_n 1, 0, 1, 0, []), (25, 1, .iaload, 0, 0, 0, []), (26, 1, .aload_n 0, 0, 0, 0, []), (27, 3, .getfield 60, 0, 6, 21, []), (30, 1, .iload_n 2, 0, 2, 0, []), (31, 1, .iaload, 0, 0, 0, []), (32, 3, .if_icmp .eq 19, 0, 0, 0, [(51,[false,false,false]), (35,[true,true,true])])]
def bX6_both_35 : List AOp := [(35, 1, .aload_n 0, 0, 0, 0, []), (36, 1, .iload_n 1, 0, 1, 0, []), (37, 3, .invokevirtual 164, 0, 87, 2, [(6,[])]), (40, 3, .ifCond .eq 11, 0, 0, 0, [(51,[false,false,false]), (43,[true,true,true])])]
def bX6_both_43 : List AOp := [(43, 1, .aload_n 0, 0, 0, 0, []), (44, 1, .iload_n 2, 0, 2, 0, []), (45, 3, .invokevirtual 164, 0, 87, 2, [(6,[])]), (48, 3, .ifCond .ne 7, 0, 0, 0, [(55,[true,true,true]), (51,[false,false,false])])]
def bX6_both_51 : List AOp := [(51, 1, .iconst 0, 0, 0, 0, []), (52, 3, .goto 16, 0, 0, 0, [(68,[false,false,false])])]
def bX6_both_55 : List AOp := [(55, 1, .aload_n 0, 0, 0, 0, []), (56, 3, .getfield 63, 0, 6, 22, []), (59, 1, .iload_n 1, 0, 1, 0, []), (60, 1, .iaload, 0, 0, 0, []), (61, 1, .aload_n 0, 0, 0, 0, []), (62, 3, .getfield 63, 0, 6, 22, []), (65, 1, .iload_n 2, 0, 2, 0, []), (66, 1, .iaload, 0, 0, 0, []), (67, 1, .iand, 0, 0, 0, []), (68, 0, .nop, 0, 0, 0, [(68,[false,false,false])])]
def bX6_both_68 : List AOp := [(68, 1, .ireturn, 0, 0, 0, [])]
def blX6_both : List (Nat × List AOp) := [(0, bX6_both_0), (10, bX6_both_10), (20, bX6_both_20), (35, bX6_both_35), (43, bX6_both_43), (51, bX6_both_51), (55, bX6_both_55), (68, bX6_both_68)]
def bX6_clash_0 : List AOp := [(0, 1, .iload_n 1, 0, 1, 0, []), (1, 3, .ifCond .lt 12, 0, 0, 0, [(13,[false,false,false,false,false,false]), (4,[true,true,true,false,false,false])])]
def bX6_clash_4 : List AOp := [(4, 1, .iload_n 2, 0, 2, 0, []), (5, 1, .iconst 0, 0, 0, 0, []), (6, 1, .iconst 2, 2, 0, 0, []), (7, 3, .invokestatic 91, 0, 62, 3, []), (10, 3, .ifCond .ne 5, 0, 0, 0, [(15,[true,true,true,false,false,false]), (13,[false,false,false,false,false,false])])]
def bX6_clash_13 : List AOp := [(13, 1, .iconst (-1), (-1), 0, 0, []), (14, 1, .ireturn, 0, 0, 0, [])]
def bX6_clash_15 : List AOp := [(15, 1, .iconst 0, 0, 0, 0, []), (16, 1, .istore_n 3, 0, 3, 0, []), (17, 1, .iconst 0, 0, 0, 0, []), (18, 2, .istore 4, 0, 4, 0, []), (20, 0, .nop, 0, 0, 0, [(20,[true,true,true,true,true,false])])]
def bX6_clash_20 : List AOp := [(20, 2, .iload 4, 0, 4, 0, []), (22, 1, .aload_n 0, 0, 0, 0, []), (23, 3, .getfield 95, 0, 6, 6, []), (26, 3, .if_icmp .ge 80, 0, 0, 0, [(106,[false,false,false,false,false,false]), (29,[true,true,true,true,true,false])])]
def bX6_clash_29 : List AOp := [(29, 2, .iload 4, 0, 4, 0, []), (31, 1, .iconst 1, 1, 0, 0, []), (32, 1, .iadd, 0, 0, 0, []), (33, 2, .istore 5, 0, 5, 0, []), (35, 0, .nop, 0, 0, 0, [(35,[true,true,true,true,true,true])])]
def bX6_clash_35 : List AOp := [(35, 2, .iload 5, 0, 5, 0, []), (37, 1, .aload_n 0, 0, 0, 0, []), (38, 3, .getfield 95, 0, 6, 6, []), (41, 3, .if_icmp .ge 59, 0, 0, 0, [(100,[true,true,true,true,true,false]), (44,[true,true,true,true,true,true])])]
def bX6_clash_44 : List AOp := [(44, 1, .aload_n 0, 0, 0, 0, []), (45, 2, .iload 4, 0, 4, 0, []), (47, 2, .iload 5, 0, 5, 0, []), (49, 3, .invokevirtual 177, 0, 97, 3, [(6,[])]), (52, 3, .ifCond .ne 6, 0, 0, 0, [(58,[true,true,true,true,true,true]), (55,[true,true,true,true,true,true])])]
def bX6_clash_55 : List AOp := [(55, 3, .goto 39, 0, 0, 0, [(94,[true,true,true,true,true,true])])]
def bX6_clash_58 : List AOp := [(58, 1, .iload_n 3, 0, 3, 0, []), (59, 1, .iload_n 1, 0, 1, 0, []), (60, 3, .if_icmp .ne 31, 0, 0, 0, [(91,[true,true,true,true,true,true]), (63,[true,false,true,false,true,true])])]
def bX6_clash_63 : List AOp := [(63, 1, .iload_n 2, 0, 2, 0, []), (64, 3, .ifCond .ne 8, 0, 0, 0, [(72,[true,false,true,false,true,true]), (67,[false,false,false,false,true,false])])]
def bX6_clash_67 : List AOp := [(67, 2, .iload 4, 0, 4, 0, []), (69, 3, .goto 21, 0, 0, 0, [(90,[false,false,false,false,false,false])])]
def bX6_clash_72 : List AOp := [(72, 1, .iload_n 2, 0, 2, 0, []), (73, 1, .iconst 1, 1, 0, 0, []), (74, 3, .if_icmp .ne 8, 0, 0, 0, [(82,[true,false,false,false,true,true]), (77,[false,false,false,false,false,true])])]
def bX6_clash_77 : List AOp := [(77, 2, .iload 5, 0, 5, 0, []), (79, 3, .goto 11, 0, 0, 0, [(90,[false,false,false,false,false,false])])]
def bX6_clash_82 : List AOp := [(82, 1, .aload_n 0, 0, 0, 0, []), (83, 2, .iload 4, 0, 4, 0, []), (85, 2, .iload 5, 0, 5, 0, []), (87, 3, .invokevirtual 177, 0, 97, 3, [(6,[])]), (90, 0, .nop, 0, 0, 0, [(90,[false,false,false,false,false,false])])]
def bX6_clash_90 : List AOp := [(90, 1, .ireturn, 0, 0, 0, [])]
def bX6_clash_91 : List AOp := [(91, 3, .iinc 3 1, 1, 3, 0, []), (94, 0, .nop, 0, 0, 0, [(94,[true,true,true,true,true,true])])]
def bX6_clash_94 : List AOp := [(94, 3, .iinc 5 1, 1, 5, 0, []), (97, 3, .goto (-62), 0, 0, 0, [(35,[true,true,true,true,true,true])])]
def bX6_clash_100 : List AOp := [(100, 3, .iinc 4 1, 1, 4, 0, []), (103, 3, .goto (-83), 0, 0, 0, [(20,[true,true,true,true,true,false])])]
def bX6_clash_106 : List AOp := [(106, 1, .iconst (-1), (-1), 0, 0, []), (107, 1, .ireturn, 0, 0, 0, [])]
def blX6_clash : List (Nat × List AOp) := [(0, bX6_clash_0), (4, bX6_clash_4), (13, bX6_clash_13), (15, bX6_clash_15), (20, bX6_clash_20), (29, bX6_clash_29), (35, bX6_clash_35), (44, bX6_clash_44), (55, bX6_clash_55), (58, bX6_clash_58), (63, bX6_clash_63), (67, bX6_clash_67), (72, bX6_clash_72), (77, bX6_clash_77), (82, bX6_clash_82), (90, bX6_clash_90), (91, bX6_clash_91), (94, bX6_clash_94), (100, bX6_clash_100), (106, bX6_clash_106)]
def bX6_court_0 : List AOp := [(0, 1, .aload_n 0, 0, 0, 0, []), (1, 1, .iload_n 1, 0, 1, 0, []), (2, 3, .invokevirtual 115, 0, 65, 2, [(6,[])]), (5, 3, .ifCond .eq 12, 0, 0, 0, [(17,[false,false,false]), (8,[true,true,true])])]
def bX6_court_8 : List AOp := [(8, 1, .iload_n 2, 0, 2, 0, []), (9, 1, .iconst 0, 0, 0, 0, []), (10, 1, .iconst 2, 2, 0, 0, []), (11, 3, .invokestatic 91, 0, 62, 3, []), (14, 3, .ifCond .ne 5, 0, 0, 0, [(19,[true,true,true]), (17,[false,false,false])])]
def bX6_court_17 : List AOp := [(17, 1, .iconst 0, 0, 0, 0, []), (18, 1, .ireturn, 0, 0, 0, [])]
def bX6_court_19 : List AOp := [(19, 1, .aload_n 0, 0, 0, 0, []), (20, 3, .getfield 66, 0, 6, 23, []), (23, 1, .iload_n 1, 0, 1, 0, []), (24, 1, .iload_n 2, 0, 2, 0, []), (25, 1, .iastore, 0, 0, 0, []), (26, 1, .iconst 1, 1, 0, 0, []), (27, 1, .ireturn, 0, 0, 0, [])]
def blX6_court : List (Nat × List AOp) := [(0, bX6_court_0), (8, bX6_court_8), (17, bX6_court_17), (19, bX6_court_19)]
def bX6_otherwise_0 : List AOp := [(0, 1, .iload_n 1, 0, 1, 0, []), (1, 3, .ifCond .ge 5, 0, 0, 0, [(6,[true,true,false,false]), (4,[false,false,false,false])])]
def bX6_otherwise_4 : List AOp := [(4, 1, .iconst (-1), (-1), 0, 0, []), (5, 1, .ireturn, 0, 0, 0, [])]
def bX6_otherwise_6 : List AOp := [(6, 1, .iconst 0, 0, 0, 0, []), (7, 1, .istore_n 2, 0, 2, 0, []), (8, 1, .iconst 0, 0, 0, 0, []), (9, 1, .istore_n 3, 0, 3, 0, []), (10, 0, .nop, 0, 0, 0, [(10,[true,true,true,true])])]
def bX6_otherwise_10 : List AOp := [(10, 1, .iload_n 3, 0, 3, 0, []), (11, 1, .aload_n 0, 0, 0, 0, []), (12, 3, .getfield 95, 0, 6, 6, []), (15, 3, .if_icmp .ge 44, 0, 0, 0, [(59,[false,false,false,false]), (18,[true,true,true,true])])]
def bX6_otherwise_18 : List AOp := [(18, 1, .aload_n 0, 0, 0, 0, []), (19, 3, .getfield 66, 0, 6, 23, []), (22, 1, .iload_n 3, 0, 3, 0, []), (23, 1, .iaload, 0, 0, 0, []), (24, 1, .aload_n 0, 0, 0, 0, []), (25, 1, .iload_n 3, 0, 3, 0, []), (26, 3, .invokevirtual 164, 0, 87, 2, [(6,[])]), (29, 3, .ifCond .eq 7, 0, 0, 0, [(36,[true,true,true,true]), (32,[true,true,true,true])])]
def bX6_otherwise_32 : List AOp := [(32, 1, .iconst 2, 2, 0, 0, []), (33, 3, .goto 4, 0, 0, 0, [(37,[true,true,true,true])])]
def bX6_otherwise_36 : List AOp := [(36, 1, .iconst 1, 1, 0, 0, []), (37, 0, .nop, 0, 0, 0, [(37,[true,true,true,true])])]
def bX6_otherwise_37 : List AOp := [(37, 3, .if_icmp .eq 6, 0, 0, 0, [(43,[true,true,true,true]), (40,[true,true,true,true])])]
def bX6_otherwise_40 : List AOp := [(40, 3, .goto 13, 0, 0, 0, [(53,[true,true,true,true])])]
def bX6_otherwise_43 : List AOp := [(43, 1, .iload_n 2, 0, 2, 0, []), (44, 1, .iload_n 1, 0, 1, 0, []), (45, 3, .if_icmp .ne 5, 0, 0, 0, [(50,[true,true,true,true]), (48,[false,false,false,true])])]
def bX6_otherwise_48 : List AOp := [(48, 1, .iload_n 3, 0, 3, 0, []), (49, 1, .ireturn, 0, 0, 0, [])]
def bX6_otherwise_50 : List AOp := [(50, 3, .iinc 2 1, 1, 2, 0, []), (53, 0, .nop, 0, 0, 0, [(53,[true,true,true,true])])]
def bX6_otherwise_53 : List AOp := [(53, 3, .iinc 3 1, 1, 3, 0, []), (56, 3, .goto (-46), 0, 0, 0, [(10,[true,true,true,true])])]
def bX6_otherwise_59 : List AOp := [(59, 1, .iconst (-1), (-1), 0, 0, []), (60, 1, .ireturn, 0, 0, 0, [])]
def blX6_otherwise : List (Nat × List AOp) := [(0, bX6_otherwise_0), (4, bX6_otherwise_4), (6, bX6_otherwise_6), (10, bX6_otherwise_10), (18, bX6_otherwise_18), (32, bX6_otherwise_32), (36, bX6_otherwise_36), (37, bX6_otherwise_37), (40, bX6_otherwise_40), (43, bX6_otherwise_43), (48, bX6_otherwise_48), (50, bX6_otherwise_50), (53, bX6_otherwise_53), (59, bX6_otherwise_59)]
def bX6_look_0 : List AOp := [(0, 1, .aload_n 0, 0, 0, 0, []), (1, 1, .iload_n 1, 0, 1, 0, []), (2, 3, .invokevirtual 115, 0, 65, 2, [(6,[])]), (5, 3, .ifCond .ne 5, 0, 0, 0, [(10,[true,true,true]), (8,[false,false,false])])]
def bX6_look_8 : List AOp := [(8, 1, .iconst (-1), (-1), 0, 0, []), (9, 1, .ireturn, 0, 0, 0, [])]
def bX6_look_10 : List AOp := [(10, 1, .iload_n 2, 0, 2, 0, []), (11, 53, .tableswitch 154 0 9 #[53, 60, 67, 74, 81, 88, 95, 102, 109, 109], 0, 0, 0, [(64,[true,true,false]), (71,[true,true,false]), (78,[true,true,false]), (85,[true,true,false]), (92,[true,true,false]), (99,[true,true,false]), (106,[true,true,false]), (113,[true,true,false]), (120,[true,true,true]), (120,[true,true,true]), (165,[false,false,false])])]
def bX6_look_64 : List AOp := [(64, 1, .aload_n 0, 0, 0, 0, []), (65, 3, .getfield 36, 0, 6, 13, []), (68, 1, .iload_n 1, 0, 1, 0, []), (69, 1, .iaload, 0, 0, 0, []), (70, 1, .ireturn, 0, 0, 0, [])]
def bX6_look_71 : List AOp := [(71, 1, .aload_n 0, 0, 0, 0, []), (72, 3, .getfield 39, 0, 6, 14, []), (75, 1, .iload_n 1, 0, 1, 0, []), (76, 1, .iaload, 0, 0, 0, []), (77, 1, .ireturn, 0, 0, 0, [])]
def bX6_look_78 : List AOp := [(78, 1, .aload_n 0, 0, 0, 0, []), (79, 3, .getfield 42, 0, 6, 15, []), (82, 1, .iload_n 1, 0, 1, 0, []), (83, 1, .iaload, 0, 0, 0, []), (84, 1, .ireturn, 0, 0, 0, [])]
def bX6_look_85 : List AOp := [(85, 1, .aload_n 0, 0, 0, 0, []), (86, 3, .getfield 45, 0, 6, 16, []), (89, 1, .iload_n 1, 0, 1, 0, []), (90, 1, .iaload, 0, 0, 0, []), (91, 1, .ireturn, 0, 0, 0, [])]
def bX6_look_92 : List AOp := [(92, 1, .aload_n 0, 0, 0, 0, []), (93, 3, .getfield 66, 0, 6, 23, []), (96, 1, .iload_n 1, 0, 1, 0, []), (97, 1, .iaload, 0, 0, 0, []), (98, 1, .ireturn, 0, 0, 0, [])]
def bX6_look_99 : List AOp := [(99, 1, .aload_n 0, 0, 0, 0, []), (100, 3, .getfield 54, 0, 6, 19, []), (103, 1, .iload_n 1, 0, 1, 0, []), (104, 1, .iaload, 0, 0, 0, []), (105, 1, .ireturn, 0, 0, 0, [])]
def bX6_look_106 : List AOp := [(106, 1, .aload_n 0, 0, 0, 0, []), (107, 3, .getfield 60, 0, 6, 21, []), (110, 1, .iload_n 1, 0, 1, 0, []), (111, 1, .iaload, 0, 0, 0, []), (112, 1, .ireturn, 0, 0, 0, [])]
def bX6_look_113 : List AOp := [(113, 1, .aload_n 0, 0, 0, 0, []), (114, 3, .getfield 63, 0, 6, 22, []), (117, 1, .iload_n 1, 0, 1, 0, []), (118, 1, .iaload, 0, 0, 0, []), (119, 1, .ireturn, 0, 0, 0, [])]
def bX6_look_120 : List AOp := [(120, 1, .aload_n 0, 0, 0, 0, []), (121, 3, .invokevirtual 161, 0, 82, 1, [(6,[])]), (124, 1, .aload_n 0, 0, 0, 0, []), (125, 3, .getfield 69, 0, 6, 24, []), (128, 1, .iload_n 1, 0, 1, 0, []), (129, 1, .iaload, 0, 0, 0, []), (130, 1, .aload_n 0, 0, 0, 0, []), (131, 3, .getfield 72, 0, 6, 25, []), (134, 1, .iload_n 1, 0, 1, 0, []), (135, 1, .iaload, 0, 0, 0, []), (136, 3, .if_icmp .le 7, 0, 0, 0, [(143,[true,true,true]), (139,[false,false,false])])]
def bX6_look_139 : List AOp := [(139, 1, .iconst (-1), (-1), 0, 0, []), (140, 3, .goto 24, 0, 0, 0, [(164,[false,false,false])])]
def bX6_look_143 : List AOp := [(143, 1, .iload_n 2, 0, 2, 0, []), (144, 2, .bipush 8, 8, 0, 0, []), (146, 3, .if_icmp .ne 12, 0, 0, 0, [(158,[true,true,false]), (149,[true,true,false])])]
def bX6_look_149 : List AOp := [(149, 1, .aload_n 0, 0, 0, 0, []), (150, 3, .getfield 69, 0, 6, 24, []), (153, 1, .iload_n 1, 0, 1, 0, []), (154, 1, .iaload, 0, 0, 0, []), (155, 3, .goto 9, 0, 0, 0, [(164,[false,false,false])])]
def bX6_look_158 : List AOp := [(158, 1, .aload_n 0, 0, 0, 0, []), (159, 3, .getfield 72, 0, 6, 25, []), (162, 1, .iload_n 1, 0, 1, 0, []), (163, 1, .iaload, 0, 0, 0, []), (164, 0, .nop, 0, 0, 0, [(164,[false,false,false])])]
def bX6_look_164 : List AOp := [(164, 1, .ireturn, 0, 0, 0, [])]
def bX6_look_165 : List AOp := [(165, 1, .iconst (-1), (-1), 0, 0, []), (166, 1, .ireturn, 0, 0, 0, [])]
def blX6_look : List (Nat × List AOp) := [(0, bX6_look_0), (8, bX6_look_8), (10, bX6_look_10), (64, bX6_look_64), (71, bX6_look_71), (78, bX6_look_78), (85, bX6_look_85), (92, bX6_look_92), (99, bX6_look_99), (106, bX6_look_106), (113, bX6_look_113), (120, bX6_look_120), (139, bX6_look_139), (143, bX6_look_143), (149, bX6_look_149), (158, bX6_look_158), (164, bX6_look_164), (165, bX6_look_165)]
def bX6_count_0 : List AOp := [(0, 1, .iconst 0, 0, 0, 0, []), (1, 1, .istore_n 2, 0, 2, 0, []), (2, 1, .iload_n 1, 0, 1, 0, []), (3, 45, .tableswitch 101 0 7 #[45, 50, 55, 60, 65, 70, 78, 83], 0, 0, 0, [(48,[true,false,false]), (53,[true,false,false]), (58,[true,false,false]), (63,[true,false,false]), (68,[true,false,false]), (73,[true,false,false]), (81,[true,false,false]), (86,[true,false,true]), (104,[false,false,false])])]
def bX6_count_48 : List AOp := [(48, 1, .aload_n 0, 0, 0, 0, []), (49, 3, .getfield 98, 0, 6, 3, []), (52, 1, .ireturn, 0, 0, 0, [])]
def bX6_count_53 : List AOp := [(53, 1, .aload_n 0, 0, 0, 0, []), (54, 3, .getfield 109, 0, 6, 4, []), (57, 1, .ireturn, 0, 0, 0, [])]
def bX6_count_58 : List AOp := [(58, 1, .aload_n 0, 0, 0, 0, []), (59, 3, .getfield 112, 0, 6, 5, []), (62, 1, .ireturn, 0, 0, 0, [])]
def bX6_count_63 : List AOp := [(63, 1, .aload_n 0, 0, 0, 0, []), (64, 3, .getfield 95, 0, 6, 6, []), (67, 1, .ireturn, 0, 0, 0, [])]
def bX6_count_68 : List AOp := [(68, 1, .aload_n 0, 0, 0, 0, []), (69, 3, .getfield 13, 0, 6, 2, []), (72, 1, .ireturn, 0, 0, 0, [])]
def bX6_count_73 : List AOp := [(73, 1, .aload_n 0, 0, 0, 0, []), (74, 3, .invokevirtual 181, 0, 85, 1, [(6,[])]), (77, 3, .invokestatic 146, 0, 81, 1, []), (80, 1, .ireturn, 0, 0, 0, [])]
def bX6_count_81 : List AOp := [(81, 1, .aload_n 0, 0, 0, 0, []), (82, 3, .getfield 167, 0, 6, 1, []), (85, 1, .ireturn, 0, 0, 0, [])]
def bX6_count_86 : List AOp := [(86, 1, .aload_n 0, 0, 0, 0, []), (87, 1, .iload_n 2, 0, 2, 0, []), (88, 1, .iconst 0, 0, 0, 0, []), (89, 3, .invokevirtual 184, 0, 98, 3, [(6,[])]), (92, 1, .iconst (-1), (-1), 0, 0, []), (93, 3, .if_icmp .eq 9, 0, 0, 0, [(102,[false,false,true]), (96,[true,false,true])])]
def bX6_count_96 : List AOp := [(96, 3, .iinc 2 1, 1, 2, 0, []), (99, 3, .goto (-13), 0, 0, 0, [(86,[true,false,true])])]
def bX6_count_102 : List AOp := [(102, 1, .iload_n 2, 0, 2, 0, []), (103, 1, .ireturn, 0, 0, 0, [])]
def bX6_count_104 : List AOp := [(104, 1, .iconst (-1), (-1), 0, 0, []), (105, 1, .ireturn, 0, 0, 0, [])]
def blX6_count : List (Nat × List AOp) := [(0, bX6_count_0), (48, bX6_count_48), (53, bX6_count_53), (58, bX6_count_58), (63, bX6_count_63), (68, bX6_count_68), (73, bX6_count_73), (81, bX6_count_81), (86, bX6_count_86), (96, bX6_count_96), (102, bX6_count_102), (104, bX6_count_104)]
def bJ6_compare_0 : List AOp := [(0, 1, .iload_n 0, 0, 0, 0, []), (1, 1, .iload_n 1, 0, 1, 0, []), (2, 3, .if_icmp .ge 7, 0, 0, 0, [(9,[true,true]), (5,[false,false])])]
def bJ6_compare_5 : List AOp := [(5, 1, .iconst (-1), (-1), 0, 0, []), (6, 3, .goto 13, 0, 0, 0, [(19,[false,false])])]
def bJ6_compare_9 : List AOp := [(9, 1, .iload_n 0, 0, 0, 0, []), (10, 1, .iload_n 1, 0, 1, 0, []), (11, 3, .if_icmp .ne 7, 0, 0, 0, [(18,[false,false]), (14,[false,false])])]
def bJ6_compare_14 : List AOp := [(14, 1, .iconst 0, 0, 0, 0, []), (15, 3, .goto 4, 0, 0, 0, [(19,[false,false])])]
def bJ6_compare_18 : List AOp := [(18, 1, .iconst 1, 1, 0, 0, []), (19, 0, .nop, 0, 0, 0, [(19,[false,false])])]
def bJ6_compare_19 : List AOp := [(19, 1, .ireturn, 0, 0, 0, [])]
def blJ6_compare : List (Nat × List AOp) := [(0, bJ6_compare_0), (5, bJ6_compare_5), (9, bJ6_compare_9), (14, bJ6_compare_14), (18, bJ6_compare_18), (19, bJ6_compare_19)]
def bJ6_bitCount_0 : List AOp := [(0, 1, .iload_n 0, 0, 0, 0, []), (1, 1, .iload_n 0, 0, 0, 0, []), (2, 1, .iconst 1, 1, 0, 0, []), (3, 1, .iushr, 0, 0, 0, []), (4, 3, .ldc_w 265, 1431655765, 0, 0, []), (7, 1, .iand, 0, 0, 0, []), (8, 1, .isub, 0, 0, 0, []), (9, 1, .istore_n 0, 0, 0, 0, []), (10, 1, .iload_n 0, 0, 0, 0, []), (11, 3, .ldc_w 266, 858993459, 0, 0, []), (14, 1, .iand, 0, 0, 0, []), (15, 1, .iload_n 0, 0, 0, 0, []), (16, 1, .iconst 2, 2, 0, 0, []), (17, 1, .iushr, 0, 0, 0, []), (18, 3, .ldc_w 266, 858993459, 0, 0, []), (21, 1, .iand, 0, 0, 0, []), (22, 1, .iadd, 0, 0, 0, []), (23, 1, .istore_n 0, 0, 0, 0, []), (24, 1, .iload_n 0, 0, 0, 0, []), (25, 1, .iload_n 0, 0, 0, 0, []), (26, 1, .iconst 4, 4, 0, 0, []), (27, 1, .iushr, 0, 0, 0, []), (28, 1, .iadd, 0, 0, 0, []), (29, 3, .ldc_w 267, 252645135, 0, 0, []), (32, 1, .iand, 0, 0, 0, []), (33, 1, .istore_n 0, 0, 0, 0, []), (34, 1, .iload_n 0, 0, 0, 0, []), (35, 1, .iload_n 0, 0, 0, 0, []), (36, 2, .bipush 8, 8, 0, 0, []), (38, 1, .iushr, 0, 0, 0, []), (39, 1, .iadd, 0, 0, 0, []), (40, 1, .istore_n 0, 0, 0, 0, []), (41, 1, .iload_n 0, 0, 0, 0, []), (42, 1, .iload_n 0, 0, 0, 0, []), (43, 2, .bipush 16, 16, 0, 0, []), (45, 1, .iushr, 0, 0, 0, []), (46, 1, .iadd, 0, 0, 0, []), (47, 1, .istore_n 0, 0, 0, 0, []), (48, 1, .iload_n 0, 0, 0, 0, []), (49, 2, .bipush 63, 63, 0, 0, []), (51, 1, .iand, 0, 0, 0, []), (52, 1, .ireturn, 0, 0, 0, [])]
def blJ6_bitCount : List (Nat × List AOp) := [(0, bJ6_bitCount_0)]
def mT : List (MethodName × ByteArray × Nat × Option FieldType × Nat × List (Nat × List AOp)) := [(yX0_isPlace, cX0_isPlace, 2, (some .boolean), 0, blX0_isPlace),
  (yX0_of, cX0_of, 3, (some .int), 0, blX0_of),
  (yX0_many, cX0_many, 4, (some .int), 0, blX0_many),
  (yX0_put, cX0_put, 4, (some .boolean), 0, blX0_put),
  (yX0_sharingHand, cX0_sharingHand, 4, (some .int), 0, blX0_sharingHand),
  (yX1_lightest, cX1_lightest, 2, (some .int), 1, blX1_lightest),
  (yX1_weigh, cX1_weigh, 4, (some .int), 1, blX1_weigh),
  (yX1_forge, cX1_forge, 9, none, 1, blX1_forge),
  (yX1_keepBetter, cX1_keepBetter, 3, none, 1, blX1_keepBetter),
  (yX2_areYears, cX2_areYears, 2, (some .boolean), 2, blX2_areYears),
  (yX2_has, cX2_has, 2, (some .boolean), 2, blX2_has),
  (yX2_add, cX2_add, 3, (some .int), 2, blX2_add),
  (yX2_change, cX2_change, 4, (some .boolean), 2, blX2_change),
  (yX2_latestStart, cX2_latestStart, 5, (some .int), 2, blX2_latestStart),
  (yX2_earliestEnd, cX2_earliestEnd, 5, (some .int), 2, blX2_earliestEnd),
  (yX3_roundsToBreak, cX3_roundsToBreak, 3, (some .int), 3, blX3_roundsToBreak),
  (yX3_firstBroken, cX3_firstBroken, 3, (some .int), 3, blX3_firstBroken),
  (yX3_lowerOnce, cX3_lowerOnce, 7, (some .boolean), 3, blX3_lowerOnce),
  (yX3_raiseOnce, cX3_raiseOnce, 7, (some .boolean), 3, blX3_raiseOnce),
  (yX3_conflictIn, cX3_conflictIn, 5, (some .int), 3, blX3_conflictIn),
  (yX3_quarrelIn, cX3_quarrelIn, 6, (some .int), 3, blX3_quarrelIn),
  (yX3_keepYears, cX3_keepYears, 3, none, 3, blX3_keepYears),
  (yX4_putBytes, cX4_putBytes, 3, none, 4, blX4_putBytes),
  (yX4_take, cX4_take, 4, (some .boolean), 4, blX4_take),
  (yX4_findModel, cX4_findModel, 3, none, 4, blX4_findModel),
  (yX4_compareWith, cX4_compareWith, 6, none, 4, blX4_compareWith),
  (yX4_alike, cX4_alike, 7, (some .int), 4, blX4_alike),
  (yX5_person, cX5_person, 3, (some .int), 5, blX5_person),
  (yX5_lived, cX5_lived, 4, (some .boolean), 5, blX5_lived),
  (yX5_formula, cX5_formula, 3, (some .int), 5, blX5_formula),
  (yX5_seal, cX5_seal, 3, (some .int), 5, blX5_seal),
  (yX5_span, cX5_span, 2, (some .boolean), 5, blX5_span),
  (yX5_deed, cX5_deed, 5, (some .int), 5, blX5_deed),
  (yX5_mark, cX5_mark, 4, (some .boolean), 5, blX5_mark),
  (yX5_agree, cX5_agree, 2, (some .int), 5, blX5_agree),
  (yX5_forged, cX5_forged, 1, (some .int), 5, blX5_forged),
  (yX5_weight, cX5_weight, 2, (some .int), 5, blX5_weight),
  (yX5_year, cX5_year, 3, (some .int), 5, blX5_year),
  (yX5_quarrel, cX5_quarrel, 1, (some .int), 5, blX5_quarrel),
  (yX5_sure, cX5_sure, 6, (some .int), 5, blX5_sure),
  (yX5_feed, cX5_feed, 6, (some .int), 5, blX5_feed),
  (yX5_words, cX5_words, 3, (some .boolean), 5, blX5_words),
  (yX5_model, cX5_model, 3, (some .int), 5, blX5_model),
  (yX5_claim, cX5_claim, 4, (some .boolean), 5, blX5_claim),
  (yX5_clash, cX5_clash, 7, (some .int), 5, blX5_clash),
  (yX5_court, cX5_court, 3, (some .boolean), 5, blX5_court),
  (yX5_otherwise, cX5_otherwise, 4, (some .int), 5, blX5_otherwise),
  (yX5_look, cX5_look, 3, (some .int), 5, blX5_look),
  (yX5_count, cX5_count, 2, (some .int), 5, blX5_count),
  (yX5_holds, cX5_holds, 2, (some .boolean), 5, blX5_holds),
  (yX5_allDeeds, cX5_allDeeds, 1, (some .int), 5, blX5_allDeeds),
  (yX5_areDeeds, cX5_areDeeds, 2, (some .boolean), 5, blX5_areDeeds),
  (yX5_isTrue, cX5_isTrue, 2, (some .boolean), 5, blX5_isTrue),
  (yX5_forgedOnes, cX5_forgedOnes, 1, (some .int), 5, blX5_forgedOnes),
  (yX5_canBeMarked, cX5_canBeMarked, 3, (some .boolean), 5, blX5_canBeMarked),
  (yX5_ownFirst, cX5_ownFirst, 3, (some .int), 5, blX5_ownFirst),
  (yX5_ownLast, cX5_ownLast, 3, (some .int), 5, blX5_ownLast),
  (yX5_hasOwnYear, cX5_hasOwnYear, 2, (some .boolean), 5, blX5_hasOwnYear),
  (yX5_settle, cX5_settle, 2, none, 5, blX5_settle),
  (yX5_disputed, cX5_disputed, 3, (some .int), 5, blX5_disputed),
  (yX5_clashes, cX5_clashes, 4, (some .int), 5, blX5_clashes),
  (yX5_isMisjudged, cX5_isMisjudged, 2, (some .boolean), 5, blX5_isMisjudged),
  (yX6_lies, cX6_lies, 3, (some .boolean), 6, blX6_lies),
  (yX6_isSpan, cX6_isSpan, 2, (some .boolean), 6, blX6_isSpan),
  (yX6_has, cX6_has, 2, (some .boolean), 6, blX6_has),
  (yX6_isDeed, cX6_isDeed, 2, (some .boolean), 6, blX6_isDeed),
  (yX6_person, cX6_person, 3, (some .int), 6, blX6_person),
  (yX6_lived, cX6_lived, 4, (some .boolean), 6, blX6_lived),
  (yX6_formula, cX6_formula, 3, (some .int), 6, blX6_formula),
  (yX6_seal, cX6_seal, 3, (some .int), 6, blX6_seal),
  (yX6_span, cX6_span, 2, (some .boolean), 6, blX6_span),
  (yX6_deed, cX6_deed, 4, (some .int), 6, blX6_deed),
  (yX6_manyOf, cX6_manyOf, 2, (some .int), 6, blX6_manyOf),
  (yX6_hasMark, cX6_hasMark, 5, (some .boolean), 6, blX6_hasMark),
  (yX6_mark, cX6_mark, 4, (some .boolean), 6, blX6_mark),
  (yX6_narrows, cX6_narrows, 4, none, 6, blX6_narrows),
  (yX6_owns, cX6_owns, 5, none, 6, blX6_owns),
  (yX6_ups, cX6_ups, 6, none, 6, blX6_ups),
  (yX6_downs, cX6_downs, 6, none, 6, blX6_downs),
  (yX6_agrees, cX6_agrees, 3, (some .boolean), 6, blX6_agrees),
  (yX6_weightOf, cX6_weightOf, 4, (some .int), 6, blX6_weightOf),
  (yX6_sizeOf, cX6_sizeOf, 3, (some .int), 6, blX6_sizeOf),
  (yX6_works, cX6_works, 4, none, 6, blX6_works),
  (yX6_isSet, cX6_isSet, 2, (some .boolean), 6, blX6_isSet),
  (yX6_agree, cX6_agree, 2, (some .int), 6, blX6_agree),
  (yX6_forged, cX6_forged, 1, (some .int), 6, blX6_forged),
  (yX6_weight, cX6_weight, 2, (some .int), 6, blX6_weight),
  (yX6_isTrue, cX6_isTrue, 2, (some .boolean), 6, blX6_isTrue),
  (yX6_year, cX6_year, 3, (some .int), 6, blX6_year),
  (yX6_quarrel, cX6_quarrel, 1, (some .int), 6, blX6_quarrel),
  (yX6_sure, cX6_sure, 6, (some .int), 6, blX6_sure),
  (yX6_push, cX6_push, 3, none, 6, blX6_push),
  (yX6_feed, cX6_feed, 6, (some .int), 6, blX6_feed),
  (yX6_words, cX6_words, 4, (some .boolean), 6, blX6_words),
  (yX6_alike, cX6_alike, 6, (some .int), 6, blX6_alike),
  (yX6_model, cX6_model, 11, (some .int), 6, blX6_model),
  (yX6_claim, cX6_claim, 4, (some .boolean), 6, blX6_claim),
  (yX6_both, cX6_both, 3, (some .int), 6, blX6_both),
  (yX6_clash, cX6_clash, 6, (some .int), 6, blX6_clash),
  (yX6_court, cX6_court, 3, (some .boolean), 6, blX6_court),
  (yX6_otherwise, cX6_otherwise, 4, (some .int), 6, blX6_otherwise),
  (yX6_look, cX6_look, 3, (some .int), 6, blX6_look),
  (yX6_count, cX6_count, 3, (some .int), 6, blX6_count),
  (yJ6_compare_7cf53, cJ6_compare_7cf53, 2, (some .int), 7, blJ6_compare),
  (yJ6_bitCount_0f7a4, cJ6_bitCount_0f7a4, 1, (some .int), 7, blJ6_bitCount)]
abbrev kX0_isPlace : Nat := 0
abbrev kX0_of : Nat := 1
abbrev kX0_many : Nat := 2
abbrev kX0_put : Nat := 3
abbrev kX0_sharingHand : Nat := 4
abbrev kX1_lightest : Nat := 5
abbrev kX1_weigh : Nat := 6
abbrev kX1_forge : Nat := 7
abbrev kX1_keepBetter : Nat := 8
abbrev kX2_areYears : Nat := 9
abbrev kX2_has : Nat := 10
abbrev kX2_add : Nat := 11
abbrev kX2_change : Nat := 12
abbrev kX2_latestStart : Nat := 13
abbrev kX2_earliestEnd : Nat := 14
abbrev kX3_roundsToBreak : Nat := 15
abbrev kX3_firstBroken : Nat := 16
abbrev kX3_lowerOnce : Nat := 17
abbrev kX3_raiseOnce : Nat := 18
abbrev kX3_conflictIn : Nat := 19
abbrev kX3_quarrelIn : Nat := 20
abbrev kX3_keepYears : Nat := 21
abbrev kX4_putBytes : Nat := 22
abbrev kX4_take : Nat := 23
abbrev kX4_findModel : Nat := 24
abbrev kX4_compareWith : Nat := 25
abbrev kX4_alike : Nat := 26
abbrev kX5_person : Nat := 27
abbrev kX5_lived : Nat := 28
abbrev kX5_formula : Nat := 29
abbrev kX5_seal : Nat := 30
abbrev kX5_span : Nat := 31
abbrev kX5_deed : Nat := 32
abbrev kX5_mark : Nat := 33
abbrev kX5_agree : Nat := 34
abbrev kX5_forged : Nat := 35
abbrev kX5_weight : Nat := 36
abbrev kX5_year : Nat := 37
abbrev kX5_quarrel : Nat := 38
abbrev kX5_sure : Nat := 39
abbrev kX5_feed : Nat := 40
abbrev kX5_words : Nat := 41
abbrev kX5_model : Nat := 42
abbrev kX5_claim : Nat := 43
abbrev kX5_clash : Nat := 44
abbrev kX5_court : Nat := 45
abbrev kX5_otherwise : Nat := 46
abbrev kX5_look : Nat := 47
abbrev kX5_count : Nat := 48
abbrev kX5_holds : Nat := 49
abbrev kX5_allDeeds : Nat := 50
abbrev kX5_areDeeds : Nat := 51
abbrev kX5_isTrue : Nat := 52
abbrev kX5_forgedOnes : Nat := 53
abbrev kX5_canBeMarked : Nat := 54
abbrev kX5_ownFirst : Nat := 55
abbrev kX5_ownLast : Nat := 56
abbrev kX5_hasOwnYear : Nat := 57
abbrev kX5_settle : Nat := 58
abbrev kX5_disputed : Nat := 59
abbrev kX5_clashes : Nat := 60
abbrev kX5_isMisjudged : Nat := 61
abbrev kX6_lies : Nat := 62
abbrev kX6_isSpan : Nat := 63
abbrev kX6_has : Nat := 64
abbrev kX6_isDeed : Nat := 65
abbrev kX6_person : Nat := 66
abbrev kX6_lived : Nat := 67
abbrev kX6_formula : Nat := 68
abbrev kX6_seal : Nat := 69
abbrev kX6_span : Nat := 70
abbrev kX6_deed : Nat := 71
abbrev kX6_manyOf : Nat := 72
abbrev kX6_hasMark : Nat := 73
abbrev kX6_mark : Nat := 74
abbrev kX6_narrows : Nat := 75
abbrev kX6_owns : Nat := 76
abbrev kX6_ups : Nat := 77
abbrev kX6_downs : Nat := 78
abbrev kX6_agrees : Nat := 79
abbrev kX6_weightOf : Nat := 80
abbrev kX6_sizeOf : Nat := 81
abbrev kX6_works : Nat := 82
abbrev kX6_isSet : Nat := 83
abbrev kX6_agree : Nat := 84
abbrev kX6_forged : Nat := 85
abbrev kX6_weight : Nat := 86
abbrev kX6_isTrue : Nat := 87
abbrev kX6_year : Nat := 88
abbrev kX6_quarrel : Nat := 89
abbrev kX6_sure : Nat := 90
abbrev kX6_push : Nat := 91
abbrev kX6_feed : Nat := 92
abbrev kX6_words : Nat := 93
abbrev kX6_alike : Nat := 94
abbrev kX6_model : Nat := 95
abbrev kX6_claim : Nat := 96
abbrev kX6_both : Nat := 97
abbrev kX6_clash : Nat := 98
abbrev kX6_court : Nat := 99
abbrev kX6_otherwise : Nat := 100
abbrev kX6_look : Nat := 101
abbrev kX6_count : Nat := 102
abbrev kJ6_compare : Nat := 103
abbrev kJ6_bitCount : Nat := 104
def cNames : List String := [RX0, RX1, RX2, RX3, RX4, RX5, RX6, RJ6, RJ9, RL]
def aFT : List (Nat × Nat × Nat × Nat × Bool) := [(0, 9, 0, 0, false), (1, 19, 1, 2, false), (1, 23, 1, 3, false), (1, 9, 1, 1, false), (1, 15, 1, 0, false), (2, 24, 2, 2, false), (2, 15, 2, 0, false), (2, 21, 2, 1, false), (3, 30, 3, 6, false), (3, 15, 3, 1, false), (3, 36, 3, 8, false), (3, 43, 3, 10, false), (3, 9, 3, 0, false), (3, 33, 3, 7, false), (3, 18, 3, 2, false), (3, 21, 3, 3, false), (3, 39, 3, 9, false), (3, 24, 3, 4, false), (3, 27, 3, 5, false), (4, 21, 4, 3, false), (4, 9, 4, 0, false), (4, 15, 4, 1, false), (4, 18, 4, 2, false), (4, 25, 4, 4, false), (4, 28, 4, 5, false), (4, 31, 4, 6, false), (4, 34, 4, 7, false), (5, 14, 5, 0, false), (5, 71, 5, 12, false), (5, 18, 5, 1, false), (5, 21, 5, 2, false), (5, 37, 5, 5, false), (5, 83, 3, 9, true), (5, 24, 5, 3, false), (5, 46, 5, 6, false), (5, 86, 1, 1, true), (5, 57, 5, 8, false), (5, 30, 5, 4, false), (5, 120, 3, 4, true), (5, 123, 3, 5, true), (5, 53, 5, 7, false), (5, 146, 4, 3, true), (5, 158, 4, 4, true), (5, 161, 4, 5, true), (5, 164, 4, 6, true), (5, 167, 4, 7, true), (5, 61, 5, 9, false), (5, 64, 5, 10, false), (5, 176, 2, 0, true), (5, 179, 2, 1, true), (5, 185, 4, 2, true), (5, 197, 2, 2, true), (5, 67, 5, 11, false), (5, 214, 3, 0, true), (5, 217, 3, 1, true), (5, 220, 3, 3, true), (5, 223, 3, 2, true), (6, 95, 6, 6, false), (6, 98, 6, 3, false), (6, 17, 6, 7, false), (6, 21, 6, 8, false), (6, 105, 6, 30, false), (6, 109, 6, 4, false), (6, 24, 6, 9, false), (6, 27, 6, 10, false), (6, 112, 6, 5, false), (6, 30, 6, 11, false), (6, 33, 6, 12, false), (6, 13, 6, 2, false), (6, 36, 6, 13, false), (6, 39, 6, 14, false), (6, 42, 6, 15, false), (6, 45, 6, 16, false), (6, 48, 6, 17, false), (6, 51, 6, 18, false), (6, 69, 6, 24, false), (6, 72, 6, 25, false), (6, 75, 6, 26, false), (6, 79, 6, 27, false), (6, 82, 6, 28, false), (6, 85, 6, 29, false), (6, 140, 6, 33, false), (6, 88, 6, 31, false), (6, 149, 6, 32, false), (6, 7, 6, 0, false), (6, 167, 6, 1, false), (6, 54, 6, 19, false), (6, 57, 6, 20, false), (6, 60, 6, 21, false), (6, 63, 6, 22, false), (6, 66, 6, 23, false)]
def aFTp : List Nat := [81, 141, 142, 139, 138, 65, 61, 63, 103, 93, 105, 108, 91, 104, 95, 97, 106, 99, 101, 162, 158, 159, 160, 164, 166, 168, 170, 189, 201, 190, 191, 194, 107, 192, 195, 140, 197, 193, 100, 102, 196, 163, 165, 167, 169, 171, 198, 199, 62, 64, 161, 66, 200, 92, 94, 98, 96, 516, 513, 517, 518, 540, 514, 519, 520, 515, 521, 522, 512, 523, 524, 525, 526, 527, 528, 534, 535, 536, 537, 538, 539, 543, 541, 542, 510, 511, 529, 530, 531, 532, 533]
def aMTp : List (List Nat) := [[37, 282, 283], [37, 285, 286, 287], [42, 296, 297], [34, 290, 289], [37, 292, 293, 294], [39, 347, 348, 349], [39, 352, 353], [34, 290, 351], [38, 355, 356, 357], [39, 375, 377, 8], [42, 379, 380], [42, 382, 297], [35, 237, 238], [35, 240, 241, 242], [35, 244, 245, 246], [34, 290, 327], [38, 363, 365, 6], [38, 368, 370, 7], [34, 290, 367], [38, 359, 360, 361], [38, 387, 389, 9], [40, 453, 455, 12], [40, 457, 459, 13], [35, 233, 234, 235], [35, 252, 241, 242], [35, 273, 245, 246], [34, 274, 276, 0], [37, 278, 279, 280], [34, 306, 308, 1], [34, 314, 316, 3], [38, 391, 360, 361], [34, 396, 398, 10], [39, 404, 348, 349], [34, 409, 411, 11], [34, 310, 312, 2], [38, 418, 419, 420], [37, 322, 286, 287], [34, 413, 290], [40, 432, 433, 434], [40, 440, 441, 442], [40, 449, 450, 451], [34, 470, 472, 14], [34, 482, 484, 15], [37, 490, 293, 294], [34, 491, 493, 16], [34, 318, 320, 4], [34, 328, 330, 5], [42, 499, 297], [34, 500, 502, 17], [35, 323, 324, 325], [35, 332, 333, 334], [37, 339, 340, 341], [39, 343, 344, 345], [38, 383, 384, 385], [41, 622, 623], [41, 619, 620], [41, 649, 651, 18], [41, 653, 655, 19], [41, 657, 659, 20], [41, 677, 679, 24], [41, 685, 686], [41, 688, 690, 26], [41, 673, 675, 23], [41, 681, 683, 25], [41, 692, 693], [41, 695, 697, 27], [41, 699, 701, 28], [41, 665, 667, 21], [41, 669, 671, 22], [41, 715, 717, 29], [41, 731, 733, 30], [41, 743, 745, 31], [41, 755, 757, 32], [41, 775, 704, 705], [41, 776, 752, 753]]
def aMCp : List Nat := [284, 288, 295, 281, 342, 346, 350, 354, 378, 239, 247, 236, 243, 326, 335, 362, 366, 371, 390, 358, 421, 386, 435, 443, 452, 456, 460, 232, 251, 256, 260, 264, 268, 272, 305, 395, 403, 408, 417, 425, 431, 439, 448, 465, 469, 477, 481, 489, 498, 291, 313, 309, 412, 399, 277, 321, 331, 494, 317, 473, 503, 485, 624, 621, 687, 652, 618, 628, 632, 636, 640, 644, 656, 660, 648, 680, 676, 691, 702, 684, 698, 694, 672, 668, 664, 706, 710, 718, 714, 722, 726, 734, 730, 738, 746, 742, 750, 758, 754, 762, 766, 770, 774, 381, 298]
def aLp0 : List Nat := [82]
def aLp1 : List Nat := [143, 145, 147, 149]
def aLp2 : List Nat := [67, 69, 71]
def aLp3 : List Nat := [109, 111, 113, 115, 117, 119, 121, 123, 125, 127, 129]
def aLp4 : List Nat := [172, 174, 176, 178, 180, 182, 184, 186]
def aLp5 : List Nat := [202, 204, 206, 208, 210, 212, 214, 216, 218, 220, 222, 224, 226]
def aLp6 : List Nat := [544, 546, 548, 550, 552, 554, 556, 558, 560, 562, 564, 566, 568, 570, 572, 574, 576, 578, 580, 582, 584, 586, 588, 590, 592, 594, 596, 598, 600, 602, 604, 606, 608, 610]
def aKT : List (Nat × Nat × Int32) := [(7, 265, 1431655765), (7, 266, 858993459), (7, 267, 252645135)]
def aKTp : List Nat := [299, 300, 301]
def aAT : List (Nat × Nat) := [(3, 58), (4, 37)]
def aATp : List Nat := [372, 444]
def aXT : List (Nat × Nat) := [(2, 9), (5, 143)]
def aXTp : List Nat := [58, 427]
def aXTw : List Nat := [59, 36, 60]
def aNT : List (Nat × Nat) := [(2, 43), (4, 51), (5, 138)]
def aNTp : List Nat := [336, 461, 426]
def aNTw : List Nat := [337, 36, 338]
def aCp : List Nat := [374, 373, 43]
def aMT : List (Nat × Nat × Nat × Nat) := [(0, 15, 0, 1), (0, 19, 1, 0), (0, 23, 104, 1), (0, 29, 49, 2), (0, 32, 2, 0), (1, 26, 6, 0), (1, 30, 7, 1), (1, 34, 49, 2), (1, 38, 19, 0), (1, 43, 8, 0), (1, 47, 103, 1), (1, 53, 104, 1), (2, 28, 9, 1), (2, 32, 12, 0), (2, 36, 10, 0), (2, 40, 49, 2), (3, 46, 16, 0), (3, 50, 17, 0), (3, 54, 49, 2), (3, 64, 15, 0), (3, 67, 18, 0), (4, 43, 25, 0), (4, 47, 26, 0), (5, 75, 11, 0), (5, 79, 12, 0), (5, 89, 10, 0), (5, 93, 54, 0), (5, 97, 3, 0), (5, 100, 51, 0), (5, 103, 58, 0), (5, 106, 15, 0), (5, 110, 53, 0), (5, 114, 6, 0), (5, 117, 52, 0), (5, 126, 50, 0), (5, 129, 20, 0), (5, 132, 1, 0), (5, 135, 49, 1), (5, 149, 22, 0), (5, 152, 23, 0), (5, 155, 24, 0), (5, 170, 59, 0), (5, 173, 61, 0), (5, 182, 2, 0), (5, 188, 57, 0), (5, 191, 55, 0), (5, 194, 56, 0), (5, 200, 104, 1), (5, 205, 60, 0), (5, 208, 13, 0), (5, 211, 14, 0), (5, 226, 4, 0), (5, 229, 5, 0), (5, 232, 21, 0), (6, 91, 62, 1), (6, 101, 63, 1), (6, 115, 65, 0), (6, 119, 72, 0), (6, 123, 73, 0), (6, 126, 75, 0), (6, 130, 64, 1), (6, 133, 77, 0), (6, 137, 76, 0), (6, 143, 79, 0), (6, 146, 81, 1), (6, 152, 80, 0), (6, 155, 78, 0), (6, 158, 83, 0), (6, 161, 82, 0), (6, 164, 87, 0), (6, 170, 91, 0), (6, 173, 94, 0), (6, 177, 97, 0), (6, 181, 85, 0), (6, 184, 98, 0)]
