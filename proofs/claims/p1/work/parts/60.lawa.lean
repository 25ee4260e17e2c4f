/-! THE CLAIM OUT OF ONE WALK OF THE LAW'S BODY. Your part is whole_start (and what it stands on); all else here is the same for every law, but numbers. -/
def R_law : String := "HalfCourtLaw"
def lw_P (b : Addr) (xs : List Int32) (args : Array Value) (s : State) : Prop := args = #[.ref b] ∧ s.IntsAt b xs ∧ xs.length ≤ 6 ∧ (Jvm.Cond.and given_1 narrow_1).before args s = true
def lw_Q (_ : Array Value) (s : State) (o : Outcome) (t : State) : Prop := o = .returned (some (.int 1)) ∧ Framed s o t [] 600000 7302250
def lw_Z (below : List Frame) (a : Array Value) (s : State) : State → Prop := fun t => ∃ o, t.status = .running ∧ Ended t below o ∧ lw_Q a s o t
/-- the law's own end, with 1 on the stack, nothing written that was there before, its room as the claim has it -/
theorem lw_ret {p : Program} {l : Launch} {e : Env} {s : State} {m : MethodId} {below : List Frame} {meth : Method} {c : Code} {b : Nat} (hx : p.tables.exec = Jvm.exec) (hb : c.code = code) (hr : meth.sig.returnType = ret) (hlocks : meth.locks = false) {pc : Nat} {H : Heap} {ls : Array Slot} (hdg : decode code pc = .ok (.ireturn, 1)) : W p l e room_1 s m #[Value.ref b] below meth c H [] 600000 7302250 (lw_Z below #[Value.ref b] s) (F0 m pc ls [.int 1]) := by
  intro T hT X
  obtain ⟨fs, hret, hrun, hended, hW, hframe⟩ := X.leave (v := some (.int 1)) (hlocks := hlocks) (fun h => by rw [hr] at h; cases h)
  have hmeth' : T.vm.method? m = some meth := X.method'
  refine ⟨T.setFrames fs, ?_, .returned (some (.int 1)), hrun, hended, rfl, ⟨_, rfl⟩, hW, hframe⟩
  jvm_step X.here [X.here.top, hx, hb, hdg, hmeth', hr, ret, narrow_b1]
  (try refine ⟨rfl, ?_⟩); (try refine ⟨rfl, ?_⟩)
  first | (intro acts; rw [hret _ acts rfl rfl rfl]) | rw [hret _ _ rfl rfl rfl]
  exact Steps.refl _
/-- what holds at the law's entry: the machine, the code, the tables' words (any of lw_tbl by 'hts w (by decide +kernel)'), the script of L ints xs at the cell b, what the Statement gives of the start (any of its parts by flat_of_before) -/
def lw_At (p : Program) (s : State) (m : MethodId) (meth : Method) (c : Code) (b L : Nat) (xs : Nat → Int32) : Prop :=
  p.tables.exec = Jvm.exec ∧ c.code = code ∧ meth.sig.returnType = ret ∧ c.maxLocals = 4 ∧ s.vm.findClass R_law = some m.cls ∧ (∀ w ∈ lw_tbl, w.before #[Value.ref b] s = true) ∧ va_X b L xs s s.heap ∧ b < s.heap.size ∧ meth.locks = false ∧ (Jvm.Cond.and given_1 narrow_1).before #[Value.ref b] s = true
theorem mw_119 : Cond.classLink RL 7 RX9 ∈ TB := tbm 119 (by decide +kernel) rfl
theorem mw_120 : Cond.instantiable RX9 9 ∈ TB := tbm 120 (by decide +kernel) rfl
theorem mw_121 : Cond.methodLink RL 9 yX9_init ∈ TB := tbm 121 (by decide +kernel) rfl
theorem mw_122 : Cond.instanceMethod yX9_init ∈ TB := tbm 122 (by decide +kernel) rfl
theorem mw_123 : Cond.code yX9_init cX9_init 2 none ∈ TB := tbm 123 (by decide +kernel) rfl
theorem mw_584 : Cond.methodLink RL 13 yX9_feed ∈ TB := tbm 584 (by decide +kernel) rfl
theorem mw_585 : Cond.instanceMethod yX9_feed ∈ TB := tbm 585 (by decide +kernel) rfl
theorem mw_586 : Cond.selects RX9 yX9_feed yX9_feed ∈ TB := tbm 586 (by decide +kernel) rfl
theorem mw_587 : Cond.code yX9_feed cX9_feed 6 (some .int) ∈ TB := tbm 587 (by decide +kernel) rfl
theorem mw_592 : Cond.methodLink RL 18 yX9_end ∈ TB := tbm 592 (by decide +kernel) rfl
theorem mw_593 : Cond.instanceMethod yX9_end ∈ TB := tbm 593 (by decide +kernel) rfl
theorem mw_594 : Cond.selects RX9 yX9_end yX9_end ∈ TB := tbm 594 (by decide +kernel) rfl
theorem mw_595 : Cond.code yX9_end cX9_end 2 (some .int) ∈ TB := tbm 595 (by decide +kernel) rfl
theorem mw_596 : Cond.methodLink RL 23 yX9_trial ∈ TB := tbm 596 (by decide +kernel) rfl
theorem mw_597 : Cond.instanceMethod yX9_trial ∈ TB := tbm 597 (by decide +kernel) rfl
theorem mw_598 : Cond.selects RX9 yX9_trial yX9_trial ∈ TB := tbm 598 (by decide +kernel) rfl
theorem mw_599 : Cond.code yX9_trial cX9_trial 3 (some .int) ∈ TB := tbm 599 (by decide +kernel) rfl
theorem mw_843 : Cond.methodLink RL 28 yX9_fault ∈ TB := tbm 843 (by decide +kernel) rfl
theorem mw_844 : Cond.instanceMethod yX9_fault ∈ TB := tbm 844 (by decide +kernel) rfl
theorem mw_845 : Cond.selects RX9 yX9_fault yX9_fault ∈ TB := tbm 845 (by decide +kernel) rfl
theorem mw_846 : Cond.code yX9_fault cX9_fault 2 (some .int) ∈ TB := tbm 846 (by decide +kernel) rfl
theorem mw_847 : Cond.methodLink RL 32 yX9_edge ∈ TB := tbm 847 (by decide +kernel) rfl
theorem mw_848 : Cond.instanceMethod yX9_edge ∈ TB := tbm 848 (by decide +kernel) rfl
theorem mw_849 : Cond.selects RX9 yX9_edge yX9_edge ∈ TB := tbm 849 (by decide +kernel) rfl
theorem mw_850 : Cond.code yX9_edge cX9_edge 5 (some .int) ∈ TB := tbm 850 (by decide +kernel) rfl
theorem mw_868 : Cond.methodLink RL 37 yX9_witness ∈ TB := tbm 868 (by decide +kernel) rfl
theorem mw_869 : Cond.instanceMethod yX9_witness ∈ TB := tbm 869 (by decide +kernel) rfl
theorem mw_870 : Cond.selects RX9 yX9_witness yX9_witness ∈ TB := tbm 870 (by decide +kernel) rfl
theorem mw_871 : Cond.code yX9_witness cX9_witness 3 (some .int) ∈ TB := tbm 871 (by decide +kernel) rfl
theorem mw_876 : Cond.methodLink RL 42 yX9_scene ∈ TB := tbm 876 (by decide +kernel) rfl
theorem mw_877 : Cond.instanceMethod yX9_scene ∈ TB := tbm 877 (by decide +kernel) rfl
theorem mw_878 : Cond.selects RX9 yX9_scene yX9_scene ∈ TB := tbm 878 (by decide +kernel) rfl
theorem mw_879 : Cond.code yX9_scene cX9_scene 5 (some .int) ∈ TB := tbm 879 (by decide +kernel) rfl
theorem mw_889 : Cond.methodLink RL 46 yX9_state ∈ TB := tbm 889 (by decide +kernel) rfl
theorem mw_890 : Cond.instanceMethod yX9_state ∈ TB := tbm 890 (by decide +kernel) rfl
theorem mw_891 : Cond.selects RX9 yX9_state yX9_state ∈ TB := tbm 891 (by decide +kernel) rfl
theorem mw_892 : Cond.code yX9_state cX9_state 7 (some .int) ∈ TB := tbm 892 (by decide +kernel) rfl
theorem mw_901 : Cond.methodLink RL 50 yX9_call ∈ TB := tbm 901 (by decide +kernel) rfl
theorem mw_902 : Cond.instanceMethod yX9_call ∈ TB := tbm 902 (by decide +kernel) rfl
theorem mw_903 : Cond.selects RX9 yX9_call yX9_call ∈ TB := tbm 903 (by decide +kernel) rfl
theorem mw_904 : Cond.code yX9_call cX9_call 4 (some .int) ∈ TB := tbm 904 (by decide +kernel) rfl
theorem mw_909 : Cond.methodLink RL 54 yX9_untell ∈ TB := tbm 909 (by decide +kernel) rfl
theorem mw_910 : Cond.instanceMethod yX9_untell ∈ TB := tbm 910 (by decide +kernel) rfl
theorem mw_911 : Cond.selects RX9 yX9_untell yX9_untell ∈ TB := tbm 911 (by decide +kernel) rfl
theorem mw_912 : Cond.code yX9_untell cX9_untell 2 (some .boolean) ∈ TB := tbm 912 (by decide +kernel) rfl
theorem mw_913 : Cond.methodLink RL 59 yX9_later ∈ TB := tbm 913 (by decide +kernel) rfl
theorem mw_914 : Cond.instanceMethod yX9_later ∈ TB := tbm 914 (by decide +kernel) rfl
theorem mw_915 : Cond.selects RX9 yX9_later yX9_later ∈ TB := tbm 915 (by decide +kernel) rfl
theorem mw_916 : Cond.code yX9_later cX9_later 2 (some .int) ∈ TB := tbm 916 (by decide +kernel) rfl
theorem mw_918 : Cond.methodLink RL 63 yX9_fits ∈ TB := tbm 918 (by decide +kernel) rfl
theorem mw_919 : Cond.instanceMethod yX9_fits ∈ TB := tbm 919 (by decide +kernel) rfl
theorem mw_920 : Cond.selects RX9 yX9_fits yX9_fits ∈ TB := tbm 920 (by decide +kernel) rfl
theorem mw_921 : Cond.code yX9_fits cX9_fits 4 (some .int) ∈ TB := tbm 921 (by decide +kernel) rfl
theorem mw_934 : Cond.methodLink RL 67 yX9_liars ∈ TB := tbm 934 (by decide +kernel) rfl
theorem mw_935 : Cond.instanceMethod yX9_liars ∈ TB := tbm 935 (by decide +kernel) rfl
theorem mw_936 : Cond.selects RX9 yX9_liars yX9_liars ∈ TB := tbm 936 (by decide +kernel) rfl
theorem mw_937 : Cond.code yX9_liars cX9_liars 3 (some .int) ∈ TB := tbm 937 (by decide +kernel) rfl
theorem mw_942 : Cond.methodLink RL 71 yX9_fewest ∈ TB := tbm 942 (by decide +kernel) rfl
theorem mw_943 : Cond.instanceMethod yX9_fewest ∈ TB := tbm 943 (by decide +kernel) rfl
theorem mw_944 : Cond.selects RX9 yX9_fewest yX9_fewest ∈ TB := tbm 944 (by decide +kernel) rfl
theorem mw_945 : Cond.code yX9_fewest cX9_fewest 7 (some .int) ∈ TB := tbm 945 (by decide +kernel) rfl
theorem mw_955 : Cond.methodLink RL 75 yX9_sure ∈ TB := tbm 955 (by decide +kernel) rfl
theorem mw_956 : Cond.instanceMethod yX9_sure ∈ TB := tbm 956 (by decide +kernel) rfl
theorem mw_957 : Cond.selects RX9 yX9_sure yX9_sure ∈ TB := tbm 957 (by decide +kernel) rfl
theorem mw_958 : Cond.code yX9_sure cX9_sure 11 (some .int) ∈ TB := tbm 958 (by decide +kernel) rfl
theorem mw_960 : Cond.methodLink RL 80 yX9_twice ∈ TB := tbm 960 (by decide +kernel) rfl
theorem mw_961 : Cond.instanceMethod yX9_twice ∈ TB := tbm 961 (by decide +kernel) rfl
theorem mw_962 : Cond.selects RX9 yX9_twice yX9_twice ∈ TB := tbm 962 (by decide +kernel) rfl
theorem mw_963 : Cond.code yX9_twice cX9_twice 5 (some .int) ∈ TB := tbm 963 (by decide +kernel) rfl
theorem mw_968 : Cond.methodLink RL 84 yX9_struck ∈ TB := tbm 968 (by decide +kernel) rfl
theorem mw_969 : Cond.instanceMethod yX9_struck ∈ TB := tbm 969 (by decide +kernel) rfl
theorem mw_970 : Cond.selects RX9 yX9_struck yX9_struck ∈ TB := tbm 970 (by decide +kernel) rfl
theorem mw_971 : Cond.code yX9_struck cX9_struck 7 (some .int) ∈ TB := tbm 971 (by decide +kernel) rfl
theorem mw_972 : Cond.methodLink RL 88 yX9_apart ∈ TB := tbm 972 (by decide +kernel) rfl
theorem mw_973 : Cond.instanceMethod yX9_apart ∈ TB := tbm 973 (by decide +kernel) rfl
theorem mw_974 : Cond.selects RX9 yX9_apart yX9_apart ∈ TB := tbm 974 (by decide +kernel) rfl
theorem mw_975 : Cond.code yX9_apart cX9_apart 3 (some .int) ∈ TB := tbm 975 (by decide +kernel) rfl
theorem mw_980 : Cond.methodLink RL 92 yX9_blind ∈ TB := tbm 980 (by decide +kernel) rfl
theorem mw_981 : Cond.instanceMethod yX9_blind ∈ TB := tbm 981 (by decide +kernel) rfl
theorem mw_982 : Cond.selects RX9 yX9_blind yX9_blind ∈ TB := tbm 982 (by decide +kernel) rfl
theorem mw_983 : Cond.code yX9_blind cX9_blind 2 (some .int) ∈ TB := tbm 983 (by decide +kernel) rfl
theorem mw_989 : Cond.methodLink RL 96 yX9_seat ∈ TB := tbm 989 (by decide +kernel) rfl
theorem mw_990 : Cond.instanceMethod yX9_seat ∈ TB := tbm 990 (by decide +kernel) rfl
theorem mw_991 : Cond.selects RX9 yX9_seat yX9_seat ∈ TB := tbm 991 (by decide +kernel) rfl
theorem mw_992 : Cond.code yX9_seat cX9_seat 4 (some .int) ∈ TB := tbm 992 (by decide +kernel) rfl
theorem mw_1000 : Cond.methodLink RL 101 yX9_bestSeat ∈ TB := tbm 1000 (by decide +kernel) rfl
theorem mw_1001 : Cond.instanceMethod yX9_bestSeat ∈ TB := tbm 1001 (by decide +kernel) rfl
theorem mw_1002 : Cond.selects RX9 yX9_bestSeat yX9_bestSeat ∈ TB := tbm 1002 (by decide +kernel) rfl
theorem mw_1003 : Cond.code yX9_bestSeat cX9_bestSeat 2 (some .int) ∈ TB := tbm 1003 (by decide +kernel) rfl
theorem mw_1014 : Cond.methodLink RL 105 yX9_byTurn ∈ TB := tbm 1014 (by decide +kernel) rfl
theorem mw_1015 : Cond.instanceMethod yX9_byTurn ∈ TB := tbm 1015 (by decide +kernel) rfl
theorem mw_1016 : Cond.selects RX9 yX9_byTurn yX9_byTurn ∈ TB := tbm 1016 (by decide +kernel) rfl
theorem mw_1017 : Cond.code yX9_byTurn cX9_byTurn 2 (some .int) ∈ TB := tbm 1017 (by decide +kernel) rfl
theorem mw_1043 : Cond.methodLink RL 109 yX9_parted ∈ TB := tbm 1043 (by decide +kernel) rfl
theorem mw_1044 : Cond.instanceMethod yX9_parted ∈ TB := tbm 1044 (by decide +kernel) rfl
theorem mw_1045 : Cond.selects RX9 yX9_parted yX9_parted ∈ TB := tbm 1045 (by decide +kernel) rfl
theorem mw_1046 : Cond.code yX9_parted cX9_parted 3 (some .int) ∈ TB := tbm 1046 (by decide +kernel) rfl
theorem mw_1048 : Cond.methodLink RL 113 yX9_parts ∈ TB := tbm 1048 (by decide +kernel) rfl
theorem mw_1049 : Cond.instanceMethod yX9_parts ∈ TB := tbm 1049 (by decide +kernel) rfl
theorem mw_1050 : Cond.selects RX9 yX9_parts yX9_parts ∈ TB := tbm 1050 (by decide +kernel) rfl
theorem mw_1051 : Cond.code yX9_parts cX9_parts 4 (some .int) ∈ TB := tbm 1051 (by decide +kernel) rfl
theorem mw_1052 : Cond.methodLink RL 117 yX9_list ∈ TB := tbm 1052 (by decide +kernel) rfl
theorem mw_1053 : Cond.instanceMethod yX9_list ∈ TB := tbm 1053 (by decide +kernel) rfl
theorem mw_1054 : Cond.selects RX9 yX9_list yX9_list ∈ TB := tbm 1054 (by decide +kernel) rfl
theorem mw_1055 : Cond.code yX9_list cX9_list 4 (some .int) ∈ TB := tbm 1055 (by decide +kernel) rfl
theorem mw_1070 : Cond.methodLink RL 121 yX9_rounds ∈ TB := tbm 1070 (by decide +kernel) rfl
theorem mw_1071 : Cond.instanceMethod yX9_rounds ∈ TB := tbm 1071 (by decide +kernel) rfl
theorem mw_1072 : Cond.selects RX9 yX9_rounds yX9_rounds ∈ TB := tbm 1072 (by decide +kernel) rfl
theorem mw_1073 : Cond.code yX9_rounds cX9_rounds 3 (some .int) ∈ TB := tbm 1073 (by decide +kernel) rfl
theorem mw_1082 : Cond.methodLink RL 125 yX9_image ∈ TB := tbm 1082 (by decide +kernel) rfl
theorem mw_1083 : Cond.instanceMethod yX9_image ∈ TB := tbm 1083 (by decide +kernel) rfl
theorem mw_1084 : Cond.selects RX9 yX9_image yX9_image ∈ TB := tbm 1084 (by decide +kernel) rfl
theorem mw_1085 : Cond.code yX9_image cX9_image 2 (some .int) ∈ TB := tbm 1085 (by decide +kernel) rfl
theorem mw_1093 : Cond.methodLink RL 129 yX9_back ∈ TB := tbm 1093 (by decide +kernel) rfl
theorem mw_1094 : Cond.instanceMethod yX9_back ∈ TB := tbm 1094 (by decide +kernel) rfl
theorem mw_1095 : Cond.selects RX9 yX9_back yX9_back ∈ TB := tbm 1095 (by decide +kernel) rfl
theorem mw_1096 : Cond.code yX9_back cX9_back 2 (some .int) ∈ TB := tbm 1096 (by decide +kernel) rfl
theorem mw_1097 : Cond.methodLink RL 133 yX9_about ∈ TB := tbm 1097 (by decide +kernel) rfl
theorem mw_1098 : Cond.instanceMethod yX9_about ∈ TB := tbm 1098 (by decide +kernel) rfl
theorem mw_1099 : Cond.selects RX9 yX9_about yX9_about ∈ TB := tbm 1099 (by decide +kernel) rfl
theorem mw_1100 : Cond.code yX9_about cX9_about 2 (some .int) ∈ TB := tbm 1100 (by decide +kernel) rfl
theorem mw_1101 : Cond.classLink RL 10 RX10 ∈ TB := tbm 1101 (by decide +kernel) rfl
theorem mw_1102 : Cond.instantiable RX10 67 ∈ TB := tbm 1102 (by decide +kernel) rfl
theorem mw_1103 : Cond.methodLink RL 12 yX10_init ∈ TB := tbm 1103 (by decide +kernel) rfl
theorem mw_1104 : Cond.instanceMethod yX10_init ∈ TB := tbm 1104 (by decide +kernel) rfl
theorem mw_1105 : Cond.code yX10_init cX10_init 2 none ∈ TB := tbm 1105 (by decide +kernel) rfl
theorem mw_1379 : Cond.methodLink RL 27 yX10_trial ∈ TB := tbm 1379 (by decide +kernel) rfl
theorem mw_1380 : Cond.instanceMethod yX10_trial ∈ TB := tbm 1380 (by decide +kernel) rfl
theorem mw_1381 : Cond.selects RX10 yX10_trial yX10_trial ∈ TB := tbm 1381 (by decide +kernel) rfl
theorem mw_1382 : Cond.code yX10_trial cX10_trial 2 (some .int) ∈ TB := tbm 1382 (by decide +kernel) rfl
theorem mw_1533 : Cond.methodLink RL 31 yX10_fault ∈ TB := tbm 1533 (by decide +kernel) rfl
theorem mw_1534 : Cond.instanceMethod yX10_fault ∈ TB := tbm 1534 (by decide +kernel) rfl
theorem mw_1535 : Cond.selects RX10 yX10_fault yX10_fault ∈ TB := tbm 1535 (by decide +kernel) rfl
theorem mw_1536 : Cond.code yX10_fault cX10_fault 2 (some .int) ∈ TB := tbm 1536 (by decide +kernel) rfl
theorem mw_1537 : Cond.methodLink RL 36 yX10_edge ∈ TB := tbm 1537 (by decide +kernel) rfl
theorem mw_1538 : Cond.instanceMethod yX10_edge ∈ TB := tbm 1538 (by decide +kernel) rfl
theorem mw_1539 : Cond.selects RX10 yX10_edge yX10_edge ∈ TB := tbm 1539 (by decide +kernel) rfl
theorem mw_1540 : Cond.code yX10_edge cX10_edge 5 (some .int) ∈ TB := tbm 1540 (by decide +kernel) rfl
theorem mw_1549 : Cond.methodLink RL 41 yX10_witness ∈ TB := tbm 1549 (by decide +kernel) rfl
theorem mw_1550 : Cond.instanceMethod yX10_witness ∈ TB := tbm 1550 (by decide +kernel) rfl
theorem mw_1551 : Cond.selects RX10 yX10_witness yX10_witness ∈ TB := tbm 1551 (by decide +kernel) rfl
theorem mw_1552 : Cond.code yX10_witness cX10_witness 3 (some .int) ∈ TB := tbm 1552 (by decide +kernel) rfl
theorem mw_1553 : Cond.methodLink RL 45 yX10_scene ∈ TB := tbm 1553 (by decide +kernel) rfl
theorem mw_1554 : Cond.instanceMethod yX10_scene ∈ TB := tbm 1554 (by decide +kernel) rfl
theorem mw_1555 : Cond.selects RX10 yX10_scene yX10_scene ∈ TB := tbm 1555 (by decide +kernel) rfl
theorem mw_1556 : Cond.code yX10_scene cX10_scene 5 (some .int) ∈ TB := tbm 1556 (by decide +kernel) rfl
theorem mw_1564 : Cond.methodLink RL 49 yX10_state ∈ TB := tbm 1564 (by decide +kernel) rfl
theorem mw_1565 : Cond.instanceMethod yX10_state ∈ TB := tbm 1565 (by decide +kernel) rfl
theorem mw_1566 : Cond.selects RX10 yX10_state yX10_state ∈ TB := tbm 1566 (by decide +kernel) rfl
theorem mw_1567 : Cond.code yX10_state cX10_state 6 (some .int) ∈ TB := tbm 1567 (by decide +kernel) rfl
theorem mw_1572 : Cond.methodLink RL 53 yX10_call ∈ TB := tbm 1572 (by decide +kernel) rfl
theorem mw_1573 : Cond.instanceMethod yX10_call ∈ TB := tbm 1573 (by decide +kernel) rfl
theorem mw_1574 : Cond.selects RX10 yX10_call yX10_call ∈ TB := tbm 1574 (by decide +kernel) rfl
theorem mw_1575 : Cond.code yX10_call cX10_call 5 (some .int) ∈ TB := tbm 1575 (by decide +kernel) rfl
theorem mw_1576 : Cond.methodLink RL 58 yX10_untell ∈ TB := tbm 1576 (by decide +kernel) rfl
theorem mw_1577 : Cond.instanceMethod yX10_untell ∈ TB := tbm 1577 (by decide +kernel) rfl
theorem mw_1578 : Cond.selects RX10 yX10_untell yX10_untell ∈ TB := tbm 1578 (by decide +kernel) rfl
theorem mw_1579 : Cond.code yX10_untell cX10_untell 2 (some .boolean) ∈ TB := tbm 1579 (by decide +kernel) rfl
theorem mw_1580 : Cond.methodLink RL 62 yX10_later ∈ TB := tbm 1580 (by decide +kernel) rfl
theorem mw_1581 : Cond.instanceMethod yX10_later ∈ TB := tbm 1581 (by decide +kernel) rfl
theorem mw_1582 : Cond.selects RX10 yX10_later yX10_later ∈ TB := tbm 1582 (by decide +kernel) rfl
theorem mw_1583 : Cond.code yX10_later cX10_later 2 (some .int) ∈ TB := tbm 1583 (by decide +kernel) rfl
theorem mw_1585 : Cond.methodLink RL 66 yX10_fits ∈ TB := tbm 1585 (by decide +kernel) rfl
theorem mw_1597 : Cond.methodLink RL 70 yX10_liars ∈ TB := tbm 1597 (by decide +kernel) rfl
theorem mw_1598 : Cond.instanceMethod yX10_liars ∈ TB := tbm 1598 (by decide +kernel) rfl
theorem mw_1599 : Cond.selects RX10 yX10_liars yX10_liars ∈ TB := tbm 1599 (by decide +kernel) rfl
theorem mw_1600 : Cond.code yX10_liars cX10_liars 3 (some .int) ∈ TB := tbm 1600 (by decide +kernel) rfl
theorem mw_1605 : Cond.methodLink RL 74 yX10_fewest ∈ TB := tbm 1605 (by decide +kernel) rfl
theorem mw_1606 : Cond.instanceMethod yX10_fewest ∈ TB := tbm 1606 (by decide +kernel) rfl
theorem mw_1607 : Cond.selects RX10 yX10_fewest yX10_fewest ∈ TB := tbm 1607 (by decide +kernel) rfl
theorem mw_1608 : Cond.code yX10_fewest cX10_fewest 3 (some .int) ∈ TB := tbm 1608 (by decide +kernel) rfl
theorem mw_1616 : Cond.methodLink RL 87 yX10_struck ∈ TB := tbm 1616 (by decide +kernel) rfl
theorem mw_1617 : Cond.instanceMethod yX10_struck ∈ TB := tbm 1617 (by decide +kernel) rfl
theorem mw_1618 : Cond.selects RX10 yX10_struck yX10_struck ∈ TB := tbm 1618 (by decide +kernel) rfl
theorem mw_1619 : Cond.code yX10_struck cX10_struck 3 (some .int) ∈ TB := tbm 1619 (by decide +kernel) rfl
theorem mw_1620 : Cond.methodLink RL 79 yX10_sure ∈ TB := tbm 1620 (by decide +kernel) rfl
theorem mw_1621 : Cond.instanceMethod yX10_sure ∈ TB := tbm 1621 (by decide +kernel) rfl
theorem mw_1622 : Cond.selects RX10 yX10_sure yX10_sure ∈ TB := tbm 1622 (by decide +kernel) rfl
theorem mw_1623 : Cond.code yX10_sure cX10_sure 10 (some .int) ∈ TB := tbm 1623 (by decide +kernel) rfl
theorem mw_1625 : Cond.methodLink RL 83 yX10_twice ∈ TB := tbm 1625 (by decide +kernel) rfl
theorem mw_1626 : Cond.instanceMethod yX10_twice ∈ TB := tbm 1626 (by decide +kernel) rfl
theorem mw_1627 : Cond.selects RX10 yX10_twice yX10_twice ∈ TB := tbm 1627 (by decide +kernel) rfl
theorem mw_1628 : Cond.code yX10_twice cX10_twice 5 (some .int) ∈ TB := tbm 1628 (by decide +kernel) rfl
theorem mw_1629 : Cond.methodLink RL 91 yX10_apart ∈ TB := tbm 1629 (by decide +kernel) rfl
theorem mw_1630 : Cond.instanceMethod yX10_apart ∈ TB := tbm 1630 (by decide +kernel) rfl
theorem mw_1631 : Cond.selects RX10 yX10_apart yX10_apart ∈ TB := tbm 1631 (by decide +kernel) rfl
theorem mw_1632 : Cond.code yX10_apart cX10_apart 5 (some .int) ∈ TB := tbm 1632 (by decide +kernel) rfl
theorem mw_1633 : Cond.methodLink RL 95 yX10_blind ∈ TB := tbm 1633 (by decide +kernel) rfl
theorem mw_1634 : Cond.instanceMethod yX10_blind ∈ TB := tbm 1634 (by decide +kernel) rfl
theorem mw_1635 : Cond.selects RX10 yX10_blind yX10_blind ∈ TB := tbm 1635 (by decide +kernel) rfl
theorem mw_1636 : Cond.code yX10_blind cX10_blind 4 (some .int) ∈ TB := tbm 1636 (by decide +kernel) rfl
theorem mw_1637 : Cond.methodLink RL 100 yX10_seat ∈ TB := tbm 1637 (by decide +kernel) rfl
theorem mw_1649 : Cond.methodLink RL 104 yX10_bestSeat ∈ TB := tbm 1649 (by decide +kernel) rfl
theorem mw_1650 : Cond.instanceMethod yX10_bestSeat ∈ TB := tbm 1650 (by decide +kernel) rfl
theorem mw_1651 : Cond.selects RX10 yX10_bestSeat yX10_bestSeat ∈ TB := tbm 1651 (by decide +kernel) rfl
theorem mw_1652 : Cond.code yX10_bestSeat cX10_bestSeat 6 (some .int) ∈ TB := tbm 1652 (by decide +kernel) rfl
theorem mw_1654 : Cond.methodLink RL 112 yX10_parted ∈ TB := tbm 1654 (by decide +kernel) rfl
theorem mw_1655 : Cond.instanceMethod yX10_parted ∈ TB := tbm 1655 (by decide +kernel) rfl
theorem mw_1656 : Cond.selects RX10 yX10_parted yX10_parted ∈ TB := tbm 1656 (by decide +kernel) rfl
theorem mw_1657 : Cond.code yX10_parted cX10_parted 3 (some .int) ∈ TB := tbm 1657 (by decide +kernel) rfl
theorem mw_1658 : Cond.methodLink RL 116 yX10_parts ∈ TB := tbm 1658 (by decide +kernel) rfl
theorem mw_1659 : Cond.instanceMethod yX10_parts ∈ TB := tbm 1659 (by decide +kernel) rfl
theorem mw_1660 : Cond.selects RX10 yX10_parts yX10_parts ∈ TB := tbm 1660 (by decide +kernel) rfl
theorem mw_1661 : Cond.code yX10_parts cX10_parts 4 (some .int) ∈ TB := tbm 1661 (by decide +kernel) rfl
theorem mw_1662 : Cond.methodLink RL 120 yX10_list ∈ TB := tbm 1662 (by decide +kernel) rfl
theorem mw_1663 : Cond.instanceMethod yX10_list ∈ TB := tbm 1663 (by decide +kernel) rfl
theorem mw_1664 : Cond.selects RX10 yX10_list yX10_list ∈ TB := tbm 1664 (by decide +kernel) rfl
theorem mw_1665 : Cond.code yX10_list cX10_list 9 (some .int) ∈ TB := tbm 1665 (by decide +kernel) rfl
theorem mw_1674 : Cond.methodLink RL 124 yX10_rounds ∈ TB := tbm 1674 (by decide +kernel) rfl
theorem mw_1675 : Cond.instanceMethod yX10_rounds ∈ TB := tbm 1675 (by decide +kernel) rfl
theorem mw_1676 : Cond.selects RX10 yX10_rounds yX10_rounds ∈ TB := tbm 1676 (by decide +kernel) rfl
theorem mw_1677 : Cond.code yX10_rounds cX10_rounds 3 (some .int) ∈ TB := tbm 1677 (by decide +kernel) rfl
theorem mw_1690 : Cond.methodLink RL 108 yX10_byTurn ∈ TB := tbm 1690 (by decide +kernel) rfl
theorem mw_1691 : Cond.instanceMethod yX10_byTurn ∈ TB := tbm 1691 (by decide +kernel) rfl
theorem mw_1692 : Cond.selects RX10 yX10_byTurn yX10_byTurn ∈ TB := tbm 1692 (by decide +kernel) rfl
theorem mw_1693 : Cond.code yX10_byTurn cX10_byTurn 2 (some .int) ∈ TB := tbm 1693 (by decide +kernel) rfl
theorem mw_1694 : Cond.methodLink RL 128 yX10_image ∈ TB := tbm 1694 (by decide +kernel) rfl
theorem mw_1695 : Cond.instanceMethod yX10_image ∈ TB := tbm 1695 (by decide +kernel) rfl
theorem mw_1696 : Cond.selects RX10 yX10_image yX10_image ∈ TB := tbm 1696 (by decide +kernel) rfl
theorem mw_1697 : Cond.code yX10_image cX10_image 4 (some .int) ∈ TB := tbm 1697 (by decide +kernel) rfl
theorem mw_1698 : Cond.methodLink RL 132 yX10_back ∈ TB := tbm 1698 (by decide +kernel) rfl
theorem mw_1699 : Cond.instanceMethod yX10_back ∈ TB := tbm 1699 (by decide +kernel) rfl
theorem mw_1700 : Cond.selects RX10 yX10_back yX10_back ∈ TB := tbm 1700 (by decide +kernel) rfl
theorem mw_1701 : Cond.code yX10_back cX10_back 4 (some .int) ∈ TB := tbm 1701 (by decide +kernel) rfl
theorem mw_1702 : Cond.methodLink RL 136 yX10_about ∈ TB := tbm 1702 (by decide +kernel) rfl
theorem mw_1703 : Cond.instanceMethod yX10_about ∈ TB := tbm 1703 (by decide +kernel) rfl
theorem mw_1704 : Cond.selects RX10 yX10_about yX10_about ∈ TB := tbm 1704 (by decide +kernel) rfl
theorem mw_1705 : Cond.code yX10_about cX10_about 2 (some .int) ∈ TB := tbm 1705 (by decide +kernel) rfl
theorem mw_1706 : Cond.methodLink RL 17 yX10_feed ∈ TB := tbm 1706 (by decide +kernel) rfl
theorem mw_1707 : Cond.instanceMethod yX10_feed ∈ TB := tbm 1707 (by decide +kernel) rfl
theorem mw_1708 : Cond.selects RX10 yX10_feed yX10_feed ∈ TB := tbm 1708 (by decide +kernel) rfl
theorem mw_1709 : Cond.code yX10_feed cX10_feed 8 (some .int) ∈ TB := tbm 1709 (by decide +kernel) rfl
theorem mw_1710 : Cond.methodLink RL 22 yX10_end ∈ TB := tbm 1710 (by decide +kernel) rfl
theorem mw_1711 : Cond.instanceMethod yX10_end ∈ TB := tbm 1711 (by decide +kernel) rfl
theorem mw_1712 : Cond.selects RX10 yX10_end yX10_end ∈ TB := tbm 1712 (by decide +kernel) rfl
theorem mw_1713 : Cond.code yX10_end cX10_end 2 (some .int) ∈ TB := tbm 1713 (by decide +kernel) rfl
theorem dL_law_0 : decode code 0 = .ok (.new 7, 3) := by decide +kernel
theorem dL_law_3 : decode code 3 = .ok (.dup, 1) := by decide +kernel
theorem dL_law_4 : decode code 4 = .ok (.invokespecial 9, 3) := by decide +kernel
theorem dL_law_7 : decode code 7 = .ok (.astore_n 1, 1) := by decide +kernel
theorem dL_law_8 : decode code 8 = .ok (.new 10, 3) := by decide +kernel
theorem dL_law_11 : decode code 11 = .ok (.dup, 1) := by decide +kernel
theorem dL_law_12 : decode code 12 = .ok (.invokespecial 12, 3) := by decide +kernel
theorem dL_law_15 : decode code 15 = .ok (.astore_n 2, 1) := by decide +kernel
theorem dL_law_16 : decode code 16 = .ok (.iconst 0, 1) := by decide +kernel
theorem dL_law_17 : decode code 17 = .ok (.istore_n 3, 1) := by decide +kernel
theorem dL_law_18 : decode code 18 = .ok (.iload_n 3, 1) := by decide +kernel
theorem dL_law_19 : decode code 19 = .ok (.aload_n 0, 1) := by decide +kernel
theorem dL_law_20 : decode code 20 = .ok (.arraylength, 1) := by decide +kernel
theorem dL_law_21 : decode code 21 = .ok (.bipush 6, 2) := by decide +kernel
theorem dL_law_23 : decode code 23 = .ok (.isub, 1) := by decide +kernel
theorem dL_law_24 : decode code 24 = .ok (.if_icmp .gt 1129, 3) := by decide +kernel
theorem dL_law_27 : decode code 27 = .ok (.aload_n 0, 1) := by decide +kernel
theorem dL_law_28 : decode code 28 = .ok (.iload_n 3, 1) := by decide +kernel
theorem dL_law_29 : decode code 29 = .ok (.iaload, 1) := by decide +kernel
theorem dL_law_30 : decode code 30 = .ok (.bipush 31, 2) := by decide +kernel
theorem dL_law_32 : decode code 32 = .ok (.iand, 1) := by decide +kernel
theorem dL_law_33 : decode code 33 = .ok (.tableswitch 1114 0 28 #[131, 194, 217, 230, 253, 306, 339, 392, 455, 488, 511, 534, 557, 590, 623, 702, 725, 758, 791, 814, 857, 880, 903, 936, 979, 1012, 1045, 1068, 1091], 131) := by decide +kernel
theorem dL_law_164 : decode code 164 = .ok (.aload_n 1, 1) := by decide +kernel
theorem dL_law_165 : decode code 165 = .ok (.aload_n 0, 1) := by decide +kernel
theorem dL_law_166 : decode code 166 = .ok (.iload_n 3, 1) := by decide +kernel
theorem dL_law_167 : decode code 167 = .ok (.iconst 1, 1) := by decide +kernel
theorem dL_law_168 : decode code 168 = .ok (.iadd, 1) := by decide +kernel
theorem dL_law_169 : decode code 169 = .ok (.iaload, 1) := by decide +kernel
theorem dL_law_170 : decode code 170 = .ok (.aload_n 0, 1) := by decide +kernel
theorem dL_law_171 : decode code 171 = .ok (.iload_n 3, 1) := by decide +kernel
theorem dL_law_172 : decode code 172 = .ok (.iconst 2, 1) := by decide +kernel
theorem dL_law_173 : decode code 173 = .ok (.iadd, 1) := by decide +kernel
theorem dL_law_174 : decode code 174 = .ok (.iaload, 1) := by decide +kernel
theorem dL_law_175 : decode code 175 = .ok (.aload_n 0, 1) := by decide +kernel
theorem dL_law_176 : decode code 176 = .ok (.iload_n 3, 1) := by decide +kernel
theorem dL_law_177 : decode code 177 = .ok (.iconst 3, 1) := by decide +kernel
theorem dL_law_178 : decode code 178 = .ok (.iadd, 1) := by decide +kernel
theorem dL_law_179 : decode code 179 = .ok (.iaload, 1) := by decide +kernel
theorem dL_law_180 : decode code 180 = .ok (.aload_n 0, 1) := by decide +kernel
theorem dL_law_181 : decode code 181 = .ok (.iload_n 3, 1) := by decide +kernel
theorem dL_law_182 : decode code 182 = .ok (.iconst 4, 1) := by decide +kernel
theorem dL_law_183 : decode code 183 = .ok (.iadd, 1) := by decide +kernel
theorem dL_law_184 : decode code 184 = .ok (.iaload, 1) := by decide +kernel
theorem dL_law_185 : decode code 185 = .ok (.aload_n 0, 1) := by decide +kernel
theorem dL_law_186 : decode code 186 = .ok (.iload_n 3, 1) := by decide +kernel
theorem dL_law_187 : decode code 187 = .ok (.iconst 5, 1) := by decide +kernel
theorem dL_law_188 : decode code 188 = .ok (.iadd, 1) := by decide +kernel
theorem dL_law_189 : decode code 189 = .ok (.iaload, 1) := by decide +kernel
theorem dL_law_190 : decode code 190 = .ok (.invokevirtual 13, 3) := by decide +kernel
theorem dL_law_193 : decode code 193 = .ok (.aload_n 2, 1) := by decide +kernel
theorem dL_law_194 : decode code 194 = .ok (.aload_n 0, 1) := by decide +kernel
theorem dL_law_195 : decode code 195 = .ok (.iload_n 3, 1) := by decide +kernel
theorem dL_law_196 : decode code 196 = .ok (.iconst 1, 1) := by decide +kernel
theorem dL_law_197 : decode code 197 = .ok (.iadd, 1) := by decide +kernel
theorem dL_law_198 : decode code 198 = .ok (.iaload, 1) := by decide +kernel
theorem dL_law_199 : decode code 199 = .ok (.aload_n 0, 1) := by decide +kernel
theorem dL_law_200 : decode code 200 = .ok (.iload_n 3, 1) := by decide +kernel
theorem dL_law_201 : decode code 201 = .ok (.iconst 2, 1) := by decide +kernel
theorem dL_law_202 : decode code 202 = .ok (.iadd, 1) := by decide +kernel
theorem dL_law_203 : decode code 203 = .ok (.iaload, 1) := by decide +kernel
theorem dL_law_204 : decode code 204 = .ok (.aload_n 0, 1) := by decide +kernel
theorem dL_law_205 : decode code 205 = .ok (.iload_n 3, 1) := by decide +kernel
theorem dL_law_206 : decode code 206 = .ok (.iconst 3, 1) := by decide +kernel
theorem dL_law_207 : decode code 207 = .ok (.iadd, 1) := by decide +kernel
theorem dL_law_208 : decode code 208 = .ok (.iaload, 1) := by decide +kernel
theorem dL_law_209 : decode code 209 = .ok (.aload_n 0, 1) := by decide +kernel
theorem dL_law_210 : decode code 210 = .ok (.iload_n 3, 1) := by decide +kernel
theorem dL_law_211 : decode code 211 = .ok (.iconst 4, 1) := by decide +kernel
theorem dL_law_212 : decode code 212 = .ok (.iadd, 1) := by decide +kernel
theorem dL_law_213 : decode code 213 = .ok (.iaload, 1) := by decide +kernel
theorem dL_law_214 : decode code 214 = .ok (.aload_n 0, 1) := by decide +kernel
theorem dL_law_215 : decode code 215 = .ok (.iload_n 3, 1) := by decide +kernel
theorem dL_law_216 : decode code 216 = .ok (.iconst 5, 1) := by decide +kernel
theorem dL_law_217 : decode code 217 = .ok (.iadd, 1) := by decide +kernel
theorem dL_law_218 : decode code 218 = .ok (.iaload, 1) := by decide +kernel
theorem dL_law_219 : decode code 219 = .ok (.invokevirtual 17, 3) := by decide +kernel
theorem dL_law_222 : decode code 222 = .ok (.if_icmp .eq 925, 3) := by decide +kernel
theorem dL_law_227 : decode code 227 = .ok (.aload_n 1, 1) := by decide +kernel
theorem dL_law_228 : decode code 228 = .ok (.aload_n 0, 1) := by decide +kernel
theorem dL_law_229 : decode code 229 = .ok (.iload_n 3, 1) := by decide +kernel
theorem dL_law_230 : decode code 230 = .ok (.iconst 1, 1) := by decide +kernel
theorem dL_law_231 : decode code 231 = .ok (.iadd, 1) := by decide +kernel
theorem dL_law_232 : decode code 232 = .ok (.iaload, 1) := by decide +kernel
theorem dL_law_233 : decode code 233 = .ok (.invokevirtual 18, 3) := by decide +kernel
theorem dL_law_236 : decode code 236 = .ok (.aload_n 2, 1) := by decide +kernel
theorem dL_law_237 : decode code 237 = .ok (.aload_n 0, 1) := by decide +kernel
theorem dL_law_238 : decode code 238 = .ok (.iload_n 3, 1) := by decide +kernel
theorem dL_law_239 : decode code 239 = .ok (.iconst 1, 1) := by decide +kernel
theorem dL_law_240 : decode code 240 = .ok (.iadd, 1) := by decide +kernel
theorem dL_law_241 : decode code 241 = .ok (.iaload, 1) := by decide +kernel
theorem dL_law_242 : decode code 242 = .ok (.invokevirtual 22, 3) := by decide +kernel
theorem dL_law_245 : decode code 245 = .ok (.if_icmp .eq 902, 3) := by decide +kernel
theorem dL_law_250 : decode code 250 = .ok (.aload_n 1, 1) := by decide +kernel
theorem dL_law_251 : decode code 251 = .ok (.invokevirtual 23, 3) := by decide +kernel
theorem dL_law_254 : decode code 254 = .ok (.aload_n 2, 1) := by decide +kernel
theorem dL_law_255 : decode code 255 = .ok (.invokevirtual 27, 3) := by decide +kernel
theorem dL_law_258 : decode code 258 = .ok (.if_icmp .eq 889, 3) := by decide +kernel
theorem dL_law_263 : decode code 263 = .ok (.aload_n 1, 1) := by decide +kernel
theorem dL_law_264 : decode code 264 = .ok (.aload_n 0, 1) := by decide +kernel
theorem dL_law_265 : decode code 265 = .ok (.iload_n 3, 1) := by decide +kernel
theorem dL_law_266 : decode code 266 = .ok (.iconst 1, 1) := by decide +kernel
theorem dL_law_267 : decode code 267 = .ok (.iadd, 1) := by decide +kernel
theorem dL_law_268 : decode code 268 = .ok (.iaload, 1) := by decide +kernel
theorem dL_law_269 : decode code 269 = .ok (.invokevirtual 28, 3) := by decide +kernel
theorem dL_law_272 : decode code 272 = .ok (.aload_n 2, 1) := by decide +kernel
theorem dL_law_273 : decode code 273 = .ok (.aload_n 0, 1) := by decide +kernel
theorem dL_law_274 : decode code 274 = .ok (.iload_n 3, 1) := by decide +kernel
theorem dL_law_275 : decode code 275 = .ok (.iconst 1, 1) := by decide +kernel
theorem dL_law_276 : decode code 276 = .ok (.iadd, 1) := by decide +kernel
theorem dL_law_277 : decode code 277 = .ok (.iaload, 1) := by decide +kernel
theorem dL_law_278 : decode code 278 = .ok (.invokevirtual 31, 3) := by decide +kernel
theorem dL_law_281 : decode code 281 = .ok (.if_icmp .eq 866, 3) := by decide +kernel
theorem dL_law_286 : decode code 286 = .ok (.aload_n 1, 1) := by decide +kernel
theorem dL_law_287 : decode code 287 = .ok (.aload_n 0, 1) := by decide +kernel
theorem dL_law_288 : decode code 288 = .ok (.iload_n 3, 1) := by decide +kernel
theorem dL_law_289 : decode code 289 = .ok (.iconst 1, 1) := by decide +kernel
theorem dL_law_290 : decode code 290 = .ok (.iadd, 1) := by decide +kernel
theorem dL_law_291 : decode code 291 = .ok (.iaload, 1) := by decide +kernel
theorem dL_law_292 : decode code 292 = .ok (.aload_n 0, 1) := by decide +kernel
theorem dL_law_293 : decode code 293 = .ok (.iload_n 3, 1) := by decide +kernel
theorem dL_law_294 : decode code 294 = .ok (.iconst 2, 1) := by decide +kernel
theorem dL_law_295 : decode code 295 = .ok (.iadd, 1) := by decide +kernel
theorem dL_law_296 : decode code 296 = .ok (.iaload, 1) := by decide +kernel
theorem dL_law_297 : decode code 297 = .ok (.aload_n 0, 1) := by decide +kernel
theorem dL_law_298 : decode code 298 = .ok (.iload_n 3, 1) := by decide +kernel
theorem dL_law_299 : decode code 299 = .ok (.iconst 3, 1) := by decide +kernel
theorem dL_law_300 : decode code 300 = .ok (.iadd, 1) := by decide +kernel
theorem dL_law_301 : decode code 301 = .ok (.iaload, 1) := by decide +kernel
theorem dL_law_302 : decode code 302 = .ok (.aload_n 0, 1) := by decide +kernel
theorem dL_law_303 : decode code 303 = .ok (.iload_n 3, 1) := by decide +kernel
theorem dL_law_304 : decode code 304 = .ok (.iconst 4, 1) := by decide +kernel
theorem dL_law_305 : decode code 305 = .ok (.iadd, 1) := by decide +kernel
theorem dL_law_306 : decode code 306 = .ok (.iaload, 1) := by decide +kernel
theorem dL_law_307 : decode code 307 = .ok (.invokevirtual 32, 3) := by decide +kernel
theorem dL_law_310 : decode code 310 = .ok (.aload_n 2, 1) := by decide +kernel
theorem dL_law_311 : decode code 311 = .ok (.aload_n 0, 1) := by decide +kernel
theorem dL_law_312 : decode code 312 = .ok (.iload_n 3, 1) := by decide +kernel
theorem dL_law_313 : decode code 313 = .ok (.iconst 1, 1) := by decide +kernel
theorem dL_law_314 : decode code 314 = .ok (.iadd, 1) := by decide +kernel
theorem dL_law_315 : decode code 315 = .ok (.iaload, 1) := by decide +kernel
theorem dL_law_316 : decode code 316 = .ok (.aload_n 0, 1) := by decide +kernel
theorem dL_law_317 : decode code 317 = .ok (.iload_n 3, 1) := by decide +kernel
theorem dL_law_318 : decode code 318 = .ok (.iconst 2, 1) := by decide +kernel
theorem dL_law_319 : decode code 319 = .ok (.iadd, 1) := by decide +kernel
theorem dL_law_320 : decode code 320 = .ok (.iaload, 1) := by decide +kernel
theorem dL_law_321 : decode code 321 = .ok (.aload_n 0, 1) := by decide +kernel
theorem dL_law_322 : decode code 322 = .ok (.iload_n 3, 1) := by decide +kernel
theorem dL_law_323 : decode code 323 = .ok (.iconst 3, 1) := by decide +kernel
theorem dL_law_324 : decode code 324 = .ok (.iadd, 1) := by decide +kernel
theorem dL_law_325 : decode code 325 = .ok (.iaload, 1) := by decide +kernel
theorem dL_law_326 : decode code 326 = .ok (.aload_n 0, 1) := by decide +kernel
theorem dL_law_327 : decode code 327 = .ok (.iload_n 3, 1) := by decide +kernel
theorem dL_law_328 : decode code 328 = .ok (.iconst 4, 1) := by decide +kernel
theorem dL_law_329 : decode code 329 = .ok (.iadd, 1) := by decide +kernel
theorem dL_law_330 : decode code 330 = .ok (.iaload, 1) := by decide +kernel
theorem dL_law_331 : decode code 331 = .ok (.invokevirtual 36, 3) := by decide +kernel
theorem dL_law_334 : decode code 334 = .ok (.if_icmp .eq 813, 3) := by decide +kernel
theorem dL_law_339 : decode code 339 = .ok (.aload_n 1, 1) := by decide +kernel
theorem dL_law_340 : decode code 340 = .ok (.aload_n 0, 1) := by decide +kernel
theorem dL_law_341 : decode code 341 = .ok (.iload_n 3, 1) := by decide +kernel
theorem dL_law_342 : decode code 342 = .ok (.iconst 1, 1) := by decide +kernel
theorem dL_law_343 : decode code 343 = .ok (.iadd, 1) := by decide +kernel
theorem dL_law_344 : decode code 344 = .ok (.iaload, 1) := by decide +kernel
theorem dL_law_345 : decode code 345 = .ok (.aload_n 0, 1) := by decide +kernel
theorem dL_law_346 : decode code 346 = .ok (.iload_n 3, 1) := by decide +kernel
theorem dL_law_347 : decode code 347 = .ok (.iconst 2, 1) := by decide +kernel
theorem dL_law_348 : decode code 348 = .ok (.iadd, 1) := by decide +kernel
theorem dL_law_349 : decode code 349 = .ok (.iaload, 1) := by decide +kernel
theorem dL_law_350 : decode code 350 = .ok (.invokevirtual 37, 3) := by decide +kernel
theorem dL_law_353 : decode code 353 = .ok (.aload_n 2, 1) := by decide +kernel
theorem dL_law_354 : decode code 354 = .ok (.aload_n 0, 1) := by decide +kernel
theorem dL_law_355 : decode code 355 = .ok (.iload_n 3, 1) := by decide +kernel
theorem dL_law_356 : decode code 356 = .ok (.iconst 1, 1) := by decide +kernel
theorem dL_law_357 : decode code 357 = .ok (.iadd, 1) := by decide +kernel
theorem dL_law_358 : decode code 358 = .ok (.iaload, 1) := by decide +kernel
theorem dL_law_359 : decode code 359 = .ok (.aload_n 0, 1) := by decide +kernel
theorem dL_law_360 : decode code 360 = .ok (.iload_n 3, 1) := by decide +kernel
theorem dL_law_361 : decode code 361 = .ok (.iconst 2, 1) := by decide +kernel
theorem dL_law_362 : decode code 362 = .ok (.iadd, 1) := by decide +kernel
theorem dL_law_363 : decode code 363 = .ok (.iaload, 1) := by decide +kernel
theorem dL_law_364 : decode code 364 = .ok (.invokevirtual 41, 3) := by decide +kernel
theorem dL_law_367 : decode code 367 = .ok (.if_icmp .eq 780, 3) := by decide +kernel
theorem dL_law_372 : decode code 372 = .ok (.aload_n 1, 1) := by decide +kernel
theorem dL_law_373 : decode code 373 = .ok (.aload_n 0, 1) := by decide +kernel
theorem dL_law_374 : decode code 374 = .ok (.iload_n 3, 1) := by decide +kernel
theorem dL_law_375 : decode code 375 = .ok (.iconst 1, 1) := by decide +kernel
theorem dL_law_376 : decode code 376 = .ok (.iadd, 1) := by decide +kernel
theorem dL_law_377 : decode code 377 = .ok (.iaload, 1) := by decide +kernel
theorem dL_law_378 : decode code 378 = .ok (.aload_n 0, 1) := by decide +kernel
theorem dL_law_379 : decode code 379 = .ok (.iload_n 3, 1) := by decide +kernel
theorem dL_law_380 : decode code 380 = .ok (.iconst 2, 1) := by decide +kernel
theorem dL_law_381 : decode code 381 = .ok (.iadd, 1) := by decide +kernel
theorem dL_law_382 : decode code 382 = .ok (.iaload, 1) := by decide +kernel
theorem dL_law_383 : decode code 383 = .ok (.aload_n 0, 1) := by decide +kernel
theorem dL_law_384 : decode code 384 = .ok (.iload_n 3, 1) := by decide +kernel
theorem dL_law_385 : decode code 385 = .ok (.iconst 3, 1) := by decide +kernel
theorem dL_law_386 : decode code 386 = .ok (.iadd, 1) := by decide +kernel
theorem dL_law_387 : decode code 387 = .ok (.iaload, 1) := by decide +kernel
theorem dL_law_388 : decode code 388 = .ok (.aload_n 0, 1) := by decide +kernel
theorem dL_law_389 : decode code 389 = .ok (.iload_n 3, 1) := by decide +kernel
theorem dL_law_390 : decode code 390 = .ok (.iconst 4, 1) := by decide +kernel
theorem dL_law_391 : decode code 391 = .ok (.iadd, 1) := by decide +kernel
theorem dL_law_392 : decode code 392 = .ok (.iaload, 1) := by decide +kernel
theorem dL_law_393 : decode code 393 = .ok (.invokevirtual 42, 3) := by decide +kernel
theorem dL_law_396 : decode code 396 = .ok (.aload_n 2, 1) := by decide +kernel
theorem dL_law_397 : decode code 397 = .ok (.aload_n 0, 1) := by decide +kernel
theorem dL_law_398 : decode code 398 = .ok (.iload_n 3, 1) := by decide +kernel
theorem dL_law_399 : decode code 399 = .ok (.iconst 1, 1) := by decide +kernel
theorem dL_law_400 : decode code 400 = .ok (.iadd, 1) := by decide +kernel
theorem dL_law_401 : decode code 401 = .ok (.iaload, 1) := by decide +kernel
theorem dL_law_402 : decode code 402 = .ok (.aload_n 0, 1) := by decide +kernel
theorem dL_law_403 : decode code 403 = .ok (.iload_n 3, 1) := by decide +kernel
theorem dL_law_404 : decode code 404 = .ok (.iconst 2, 1) := by decide +kernel
theorem dL_law_405 : decode code 405 = .ok (.iadd, 1) := by decide +kernel
theorem dL_law_406 : decode code 406 = .ok (.iaload, 1) := by decide +kernel
theorem dL_law_407 : decode code 407 = .ok (.aload_n 0, 1) := by decide +kernel
theorem dL_law_408 : decode code 408 = .ok (.iload_n 3, 1) := by decide +kernel
theorem dL_law_409 : decode code 409 = .ok (.iconst 3, 1) := by decide +kernel
theorem dL_law_410 : decode code 410 = .ok (.iadd, 1) := by decide +kernel
theorem dL_law_411 : decode code 411 = .ok (.iaload, 1) := by decide +kernel
theorem dL_law_412 : decode code 412 = .ok (.aload_n 0, 1) := by decide +kernel
theorem dL_law_413 : decode code 413 = .ok (.iload_n 3, 1) := by decide +kernel
theorem dL_law_414 : decode code 414 = .ok (.iconst 4, 1) := by decide +kernel
theorem dL_law_415 : decode code 415 = .ok (.iadd, 1) := by decide +kernel
theorem dL_law_416 : decode code 416 = .ok (.iaload, 1) := by decide +kernel
theorem dL_law_417 : decode code 417 = .ok (.invokevirtual 45, 3) := by decide +kernel
theorem dL_law_420 : decode code 420 = .ok (.if_icmp .eq 727, 3) := by decide +kernel
theorem dL_law_425 : decode code 425 = .ok (.aload_n 1, 1) := by decide +kernel
theorem dL_law_426 : decode code 426 = .ok (.aload_n 0, 1) := by decide +kernel
theorem dL_law_427 : decode code 427 = .ok (.iload_n 3, 1) := by decide +kernel
theorem dL_law_428 : decode code 428 = .ok (.iconst 1, 1) := by decide +kernel
theorem dL_law_429 : decode code 429 = .ok (.iadd, 1) := by decide +kernel
theorem dL_law_430 : decode code 430 = .ok (.iaload, 1) := by decide +kernel
theorem dL_law_431 : decode code 431 = .ok (.aload_n 0, 1) := by decide +kernel
theorem dL_law_432 : decode code 432 = .ok (.iload_n 3, 1) := by decide +kernel
theorem dL_law_433 : decode code 433 = .ok (.iconst 2, 1) := by decide +kernel
theorem dL_law_434 : decode code 434 = .ok (.iadd, 1) := by decide +kernel
theorem dL_law_435 : decode code 435 = .ok (.iaload, 1) := by decide +kernel
theorem dL_law_436 : decode code 436 = .ok (.aload_n 0, 1) := by decide +kernel
theorem dL_law_437 : decode code 437 = .ok (.iload_n 3, 1) := by decide +kernel
theorem dL_law_438 : decode code 438 = .ok (.iconst 3, 1) := by decide +kernel
theorem dL_law_439 : decode code 439 = .ok (.iadd, 1) := by decide +kernel
theorem dL_law_440 : decode code 440 = .ok (.iaload, 1) := by decide +kernel
theorem dL_law_441 : decode code 441 = .ok (.aload_n 0, 1) := by decide +kernel
theorem dL_law_442 : decode code 442 = .ok (.iload_n 3, 1) := by decide +kernel
theorem dL_law_443 : decode code 443 = .ok (.iconst 4, 1) := by decide +kernel
theorem dL_law_444 : decode code 444 = .ok (.iadd, 1) := by decide +kernel
theorem dL_law_445 : decode code 445 = .ok (.iaload, 1) := by decide +kernel
theorem dL_law_446 : decode code 446 = .ok (.aload_n 0, 1) := by decide +kernel
theorem dL_law_447 : decode code 447 = .ok (.iload_n 3, 1) := by decide +kernel
theorem dL_law_448 : decode code 448 = .ok (.iconst 5, 1) := by decide +kernel
theorem dL_law_449 : decode code 449 = .ok (.iadd, 1) := by decide +kernel
theorem dL_law_450 : decode code 450 = .ok (.iaload, 1) := by decide +kernel
theorem dL_law_451 : decode code 451 = .ok (.invokevirtual 46, 3) := by decide +kernel
theorem dL_law_454 : decode code 454 = .ok (.aload_n 2, 1) := by decide +kernel
theorem dL_law_455 : decode code 455 = .ok (.aload_n 0, 1) := by decide +kernel
theorem dL_law_456 : decode code 456 = .ok (.iload_n 3, 1) := by decide +kernel
theorem dL_law_457 : decode code 457 = .ok (.iconst 1, 1) := by decide +kernel
theorem dL_law_458 : decode code 458 = .ok (.iadd, 1) := by decide +kernel
theorem dL_law_459 : decode code 459 = .ok (.iaload, 1) := by decide +kernel
theorem dL_law_460 : decode code 460 = .ok (.aload_n 0, 1) := by decide +kernel
theorem dL_law_461 : decode code 461 = .ok (.iload_n 3, 1) := by decide +kernel
theorem dL_law_462 : decode code 462 = .ok (.iconst 2, 1) := by decide +kernel
theorem dL_law_463 : decode code 463 = .ok (.iadd, 1) := by decide +kernel
theorem dL_law_464 : decode code 464 = .ok (.iaload, 1) := by decide +kernel
theorem dL_law_465 : decode code 465 = .ok (.aload_n 0, 1) := by decide +kernel
theorem dL_law_466 : decode code 466 = .ok (.iload_n 3, 1) := by decide +kernel
theorem dL_law_467 : decode code 467 = .ok (.iconst 3, 1) := by decide +kernel
theorem dL_law_468 : decode code 468 = .ok (.iadd, 1) := by decide +kernel
theorem dL_law_469 : decode code 469 = .ok (.iaload, 1) := by decide +kernel
theorem dL_law_470 : decode code 470 = .ok (.aload_n 0, 1) := by decide +kernel
theorem dL_law_471 : decode code 471 = .ok (.iload_n 3, 1) := by decide +kernel
theorem dL_law_472 : decode code 472 = .ok (.iconst 4, 1) := by decide +kernel
theorem dL_law_473 : decode code 473 = .ok (.iadd, 1) := by decide +kernel
theorem dL_law_474 : decode code 474 = .ok (.iaload, 1) := by decide +kernel
theorem dL_law_475 : decode code 475 = .ok (.aload_n 0, 1) := by decide +kernel
theorem dL_law_476 : decode code 476 = .ok (.iload_n 3, 1) := by decide +kernel
theorem dL_law_477 : decode code 477 = .ok (.iconst 5, 1) := by decide +kernel
theorem dL_law_478 : decode code 478 = .ok (.iadd, 1) := by decide +kernel
theorem dL_law_479 : decode code 479 = .ok (.iaload, 1) := by decide +kernel
theorem dL_law_480 : decode code 480 = .ok (.invokevirtual 49, 3) := by decide +kernel
theorem dL_law_483 : decode code 483 = .ok (.if_icmp .eq 664, 3) := by decide +kernel
theorem dL_law_488 : decode code 488 = .ok (.aload_n 1, 1) := by decide +kernel
theorem dL_law_489 : decode code 489 = .ok (.aload_n 0, 1) := by decide +kernel
theorem dL_law_490 : decode code 490 = .ok (.iload_n 3, 1) := by decide +kernel
theorem dL_law_491 : decode code 491 = .ok (.iconst 1, 1) := by decide +kernel
theorem dL_law_492 : decode code 492 = .ok (.iadd, 1) := by decide +kernel
theorem dL_law_493 : decode code 493 = .ok (.iaload, 1) := by decide +kernel
theorem dL_law_494 : decode code 494 = .ok (.aload_n 0, 1) := by decide +kernel
theorem dL_law_495 : decode code 495 = .ok (.iload_n 3, 1) := by decide +kernel
theorem dL_law_496 : decode code 496 = .ok (.iconst 2, 1) := by decide +kernel
theorem dL_law_497 : decode code 497 = .ok (.iadd, 1) := by decide +kernel
theorem dL_law_498 : decode code 498 = .ok (.iaload, 1) := by decide +kernel
theorem dL_law_499 : decode code 499 = .ok (.invokevirtual 50, 3) := by decide +kernel
theorem dL_law_502 : decode code 502 = .ok (.aload_n 2, 1) := by decide +kernel
theorem dL_law_503 : decode code 503 = .ok (.aload_n 0, 1) := by decide +kernel
theorem dL_law_504 : decode code 504 = .ok (.iload_n 3, 1) := by decide +kernel
theorem dL_law_505 : decode code 505 = .ok (.iconst 1, 1) := by decide +kernel
theorem dL_law_506 : decode code 506 = .ok (.iadd, 1) := by decide +kernel
theorem dL_law_507 : decode code 507 = .ok (.iaload, 1) := by decide +kernel
theorem dL_law_508 : decode code 508 = .ok (.aload_n 0, 1) := by decide +kernel
theorem dL_law_509 : decode code 509 = .ok (.iload_n 3, 1) := by decide +kernel
theorem dL_law_510 : decode code 510 = .ok (.iconst 2, 1) := by decide +kernel
theorem dL_law_511 : decode code 511 = .ok (.iadd, 1) := by decide +kernel
theorem dL_law_512 : decode code 512 = .ok (.iaload, 1) := by decide +kernel
theorem dL_law_513 : decode code 513 = .ok (.invokevirtual 53, 3) := by decide +kernel
theorem dL_law_516 : decode code 516 = .ok (.if_icmp .eq 631, 3) := by decide +kernel
theorem dL_law_521 : decode code 521 = .ok (.aload_n 1, 1) := by decide +kernel
theorem dL_law_522 : decode code 522 = .ok (.aload_n 0, 1) := by decide +kernel
theorem dL_law_523 : decode code 523 = .ok (.iload_n 3, 1) := by decide +kernel
theorem dL_law_524 : decode code 524 = .ok (.iconst 1, 1) := by decide +kernel
theorem dL_law_525 : decode code 525 = .ok (.iadd, 1) := by decide +kernel
theorem dL_law_526 : decode code 526 = .ok (.iaload, 1) := by decide +kernel
theorem dL_law_527 : decode code 527 = .ok (.invokevirtual 54, 3) := by decide +kernel
theorem dL_law_530 : decode code 530 = .ok (.aload_n 2, 1) := by decide +kernel
theorem dL_law_531 : decode code 531 = .ok (.aload_n 0, 1) := by decide +kernel
theorem dL_law_532 : decode code 532 = .ok (.iload_n 3, 1) := by decide +kernel
theorem dL_law_533 : decode code 533 = .ok (.iconst 1, 1) := by decide +kernel
theorem dL_law_534 : decode code 534 = .ok (.iadd, 1) := by decide +kernel
theorem dL_law_535 : decode code 535 = .ok (.iaload, 1) := by decide +kernel
theorem dL_law_536 : decode code 536 = .ok (.invokevirtual 58, 3) := by decide +kernel
theorem dL_law_539 : decode code 539 = .ok (.if_icmp .eq 608, 3) := by decide +kernel
theorem dL_law_544 : decode code 544 = .ok (.aload_n 1, 1) := by decide +kernel
theorem dL_law_545 : decode code 545 = .ok (.aload_n 0, 1) := by decide +kernel
theorem dL_law_546 : decode code 546 = .ok (.iload_n 3, 1) := by decide +kernel
theorem dL_law_547 : decode code 547 = .ok (.iconst 1, 1) := by decide +kernel
theorem dL_law_548 : decode code 548 = .ok (.iadd, 1) := by decide +kernel
theorem dL_law_549 : decode code 549 = .ok (.iaload, 1) := by decide +kernel
theorem dL_law_550 : decode code 550 = .ok (.invokevirtual 59, 3) := by decide +kernel
theorem dL_law_553 : decode code 553 = .ok (.aload_n 2, 1) := by decide +kernel
theorem dL_law_554 : decode code 554 = .ok (.aload_n 0, 1) := by decide +kernel
theorem dL_law_555 : decode code 555 = .ok (.iload_n 3, 1) := by decide +kernel
theorem dL_law_556 : decode code 556 = .ok (.iconst 1, 1) := by decide +kernel
theorem dL_law_557 : decode code 557 = .ok (.iadd, 1) := by decide +kernel
theorem dL_law_558 : decode code 558 = .ok (.iaload, 1) := by decide +kernel
theorem dL_law_559 : decode code 559 = .ok (.invokevirtual 62, 3) := by decide +kernel
theorem dL_law_562 : decode code 562 = .ok (.if_icmp .eq 585, 3) := by decide +kernel
theorem dL_law_567 : decode code 567 = .ok (.aload_n 1, 1) := by decide +kernel
theorem dL_law_568 : decode code 568 = .ok (.aload_n 0, 1) := by decide +kernel
theorem dL_law_569 : decode code 569 = .ok (.iload_n 3, 1) := by decide +kernel
theorem dL_law_570 : decode code 570 = .ok (.iconst 1, 1) := by decide +kernel
theorem dL_law_571 : decode code 571 = .ok (.iadd, 1) := by decide +kernel
theorem dL_law_572 : decode code 572 = .ok (.iaload, 1) := by decide +kernel
theorem dL_law_573 : decode code 573 = .ok (.invokevirtual 63, 3) := by decide +kernel
theorem dL_law_576 : decode code 576 = .ok (.aload_n 2, 1) := by decide +kernel
theorem dL_law_577 : decode code 577 = .ok (.aload_n 0, 1) := by decide +kernel
theorem dL_law_578 : decode code 578 = .ok (.iload_n 3, 1) := by decide +kernel
theorem dL_law_579 : decode code 579 = .ok (.iconst 1, 1) := by decide +kernel
theorem dL_law_580 : decode code 580 = .ok (.iadd, 1) := by decide +kernel
theorem dL_law_581 : decode code 581 = .ok (.iaload, 1) := by decide +kernel
theorem dL_law_582 : decode code 582 = .ok (.invokevirtual 66, 3) := by decide +kernel
theorem dL_law_585 : decode code 585 = .ok (.if_icmp .eq 562, 3) := by decide +kernel
theorem dL_law_590 : decode code 590 = .ok (.aload_n 1, 1) := by decide +kernel
theorem dL_law_591 : decode code 591 = .ok (.aload_n 0, 1) := by decide +kernel
theorem dL_law_592 : decode code 592 = .ok (.iload_n 3, 1) := by decide +kernel
theorem dL_law_593 : decode code 593 = .ok (.iconst 1, 1) := by decide +kernel
theorem dL_law_594 : decode code 594 = .ok (.iadd, 1) := by decide +kernel
theorem dL_law_595 : decode code 595 = .ok (.iaload, 1) := by decide +kernel
theorem dL_law_596 : decode code 596 = .ok (.aload_n 0, 1) := by decide +kernel
theorem dL_law_597 : decode code 597 = .ok (.iload_n 3, 1) := by decide +kernel
theorem dL_law_598 : decode code 598 = .ok (.iconst 2, 1) := by decide +kernel
theorem dL_law_599 : decode code 599 = .ok (.iadd, 1) := by decide +kernel
theorem dL_law_600 : decode code 600 = .ok (.iaload, 1) := by decide +kernel
theorem dL_law_601 : decode code 601 = .ok (.invokevirtual 67, 3) := by decide +kernel
theorem dL_law_604 : decode code 604 = .ok (.aload_n 2, 1) := by decide +kernel
theorem dL_law_605 : decode code 605 = .ok (.aload_n 0, 1) := by decide +kernel
theorem dL_law_606 : decode code 606 = .ok (.iload_n 3, 1) := by decide +kernel
theorem dL_law_607 : decode code 607 = .ok (.iconst 1, 1) := by decide +kernel
theorem dL_law_608 : decode code 608 = .ok (.iadd, 1) := by decide +kernel
theorem dL_law_609 : decode code 609 = .ok (.iaload, 1) := by decide +kernel
theorem dL_law_610 : decode code 610 = .ok (.aload_n 0, 1) := by decide +kernel
theorem dL_law_611 : decode code 611 = .ok (.iload_n 3, 1) := by decide +kernel
theorem dL_law_612 : decode code 612 = .ok (.iconst 2, 1) := by decide +kernel
theorem dL_law_613 : decode code 613 = .ok (.iadd, 1) := by decide +kernel
theorem dL_law_614 : decode code 614 = .ok (.iaload, 1) := by decide +kernel
theorem dL_law_615 : decode code 615 = .ok (.invokevirtual 70, 3) := by decide +kernel
theorem dL_law_618 : decode code 618 = .ok (.if_icmp .eq 529, 3) := by decide +kernel
theorem dL_law_623 : decode code 623 = .ok (.aload_n 1, 1) := by decide +kernel
theorem dL_law_624 : decode code 624 = .ok (.aload_n 0, 1) := by decide +kernel
theorem dL_law_625 : decode code 625 = .ok (.iload_n 3, 1) := by decide +kernel
theorem dL_law_626 : decode code 626 = .ok (.iconst 1, 1) := by decide +kernel
theorem dL_law_627 : decode code 627 = .ok (.iadd, 1) := by decide +kernel
theorem dL_law_628 : decode code 628 = .ok (.iaload, 1) := by decide +kernel
theorem dL_law_629 : decode code 629 = .ok (.aload_n 0, 1) := by decide +kernel
theorem dL_law_630 : decode code 630 = .ok (.iload_n 3, 1) := by decide +kernel
theorem dL_law_631 : decode code 631 = .ok (.iconst 2, 1) := by decide +kernel
theorem dL_law_632 : decode code 632 = .ok (.iadd, 1) := by decide +kernel
theorem dL_law_633 : decode code 633 = .ok (.iaload, 1) := by decide +kernel
theorem dL_law_634 : decode code 634 = .ok (.invokevirtual 71, 3) := by decide +kernel
theorem dL_law_637 : decode code 637 = .ok (.aload_n 2, 1) := by decide +kernel
theorem dL_law_638 : decode code 638 = .ok (.aload_n 0, 1) := by decide +kernel
theorem dL_law_639 : decode code 639 = .ok (.iload_n 3, 1) := by decide +kernel
theorem dL_law_640 : decode code 640 = .ok (.iconst 1, 1) := by decide +kernel
theorem dL_law_641 : decode code 641 = .ok (.iadd, 1) := by decide +kernel
theorem dL_law_642 : decode code 642 = .ok (.iaload, 1) := by decide +kernel
theorem dL_law_643 : decode code 643 = .ok (.aload_n 0, 1) := by decide +kernel
theorem dL_law_644 : decode code 644 = .ok (.iload_n 3, 1) := by decide +kernel
theorem dL_law_645 : decode code 645 = .ok (.iconst 2, 1) := by decide +kernel
theorem dL_law_646 : decode code 646 = .ok (.iadd, 1) := by decide +kernel
theorem dL_law_647 : decode code 647 = .ok (.iaload, 1) := by decide +kernel
theorem dL_law_648 : decode code 648 = .ok (.invokevirtual 74, 3) := by decide +kernel
theorem dL_law_651 : decode code 651 = .ok (.if_icmp .eq 496, 3) := by decide +kernel
theorem dL_law_656 : decode code 656 = .ok (.aload_n 1, 1) := by decide +kernel
theorem dL_law_657 : decode code 657 = .ok (.aload_n 0, 1) := by decide +kernel
theorem dL_law_658 : decode code 658 = .ok (.iload_n 3, 1) := by decide +kernel
theorem dL_law_659 : decode code 659 = .ok (.iconst 1, 1) := by decide +kernel
theorem dL_law_660 : decode code 660 = .ok (.iadd, 1) := by decide +kernel
theorem dL_law_661 : decode code 661 = .ok (.iaload, 1) := by decide +kernel
theorem dL_law_662 : decode code 662 = .ok (.aload_n 0, 1) := by decide +kernel
theorem dL_law_663 : decode code 663 = .ok (.iload_n 3, 1) := by decide +kernel
theorem dL_law_664 : decode code 664 = .ok (.iconst 2, 1) := by decide +kernel
theorem dL_law_665 : decode code 665 = .ok (.iadd, 1) := by decide +kernel
theorem dL_law_666 : decode code 666 = .ok (.iaload, 1) := by decide +kernel
theorem dL_law_667 : decode code 667 = .ok (.aload_n 0, 1) := by decide +kernel
theorem dL_law_668 : decode code 668 = .ok (.iload_n 3, 1) := by decide +kernel
theorem dL_law_669 : decode code 669 = .ok (.iconst 3, 1) := by decide +kernel
theorem dL_law_670 : decode code 670 = .ok (.iadd, 1) := by decide +kernel
theorem dL_law_671 : decode code 671 = .ok (.iaload, 1) := by decide +kernel
theorem dL_law_672 : decode code 672 = .ok (.aload_n 0, 1) := by decide +kernel
theorem dL_law_673 : decode code 673 = .ok (.iload_n 3, 1) := by decide +kernel
