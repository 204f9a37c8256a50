/-! THE METHODS: printed by wip/whole/gen.py -/
def gMok (r : gMT) : Prop := XY gTs r.1 r.2.1 r.2.2.1 r.2.2.2.1 r.2.2.2.2.1 ∧ (r.1.name = "<init>" → r.2.2.2.1 = none ∧ r.2.2.2.2.1 = [] ∧ Cond.code r.1 r.2.1 r.2.2.1 r.2.2.2.1 ∈ gTs) ∧ plainName r.1.cls = true ∧ r.2.2.1 ≤ 40
set_option maxRecDepth 100000 in
theorem gMo0 : gMok gM0 := ⟨Or.inl ⟨rfl, (gAt 172 rfl (by decide +kernel))⟩, (fun h => absurd h (by decide +kernel)), by decide +kernel, by decide +kernel⟩
set_option maxRecDepth 100000 in
theorem gMo1 : gMok gM1 := ⟨Or.inl ⟨rfl, (gAt 168 rfl (by decide +kernel))⟩, (fun h => absurd h (by decide +kernel)), by decide +kernel, by decide +kernel⟩
set_option maxRecDepth 100000 in
theorem gMo2 : gMok gM2 := ⟨Or.inl ⟨rfl, (gAt 182 rfl (by decide +kernel))⟩, (fun h => absurd h (by decide +kernel)), by decide +kernel, by decide +kernel⟩
set_option maxRecDepth 100000 in
theorem gMo3 : gMok gM3 := ⟨Or.inl ⟨rfl, (gAt 193 rfl (by decide +kernel))⟩, (fun h => absurd h (by decide +kernel)), by decide +kernel, by decide +kernel⟩
set_option maxRecDepth 100000 in
theorem gMo4 : gMok gM4 := ⟨Or.inl ⟨rfl, (gAt 188 rfl (by decide +kernel))⟩, (fun h => absurd h (by decide +kernel)), by decide +kernel, by decide +kernel⟩
set_option maxRecDepth 100000 in
theorem gMo5 : gMok gM5 := ⟨Or.inl ⟨rfl, (gAt 185 rfl (by decide +kernel))⟩, (fun h => absurd h (by decide +kernel)), by decide +kernel, by decide +kernel⟩
set_option maxRecDepth 100000 in
theorem gMo6 : gMok gM6 := ⟨Or.inl ⟨rfl, (gAt 178 rfl (by decide +kernel))⟩, (fun h => absurd h (by decide +kernel)), by decide +kernel, by decide +kernel⟩
set_option maxRecDepth 100000 in
theorem gMo7 : gMok gM7 := ⟨Or.inl ⟨rfl, (gAt 215 rfl (by decide +kernel))⟩, (fun h => absurd h (by decide +kernel)), by decide +kernel, by decide +kernel⟩
set_option maxRecDepth 100000 in
theorem gMo8 : gMok gM8 := ⟨Or.inl ⟨rfl, (gAt 164 rfl (by decide +kernel))⟩, (fun h => absurd h (by decide +kernel)), by decide +kernel, by decide +kernel⟩
set_option maxRecDepth 100000 in
theorem gMo9 : gMok gM9 := ⟨Or.inl ⟨rfl, (gAt 159 rfl (by decide +kernel))⟩, (fun _ => ⟨rfl, rfl, (gAt 159 rfl (by decide +kernel))⟩), by decide +kernel, by decide +kernel⟩
set_option maxRecDepth 100000 in
theorem gMo10 : gMok gM10 := ⟨Or.inl ⟨rfl, (gAt 153 rfl (by decide +kernel))⟩, (fun _ => ⟨rfl, rfl, (gAt 153 rfl (by decide +kernel))⟩), by decide +kernel, by decide +kernel⟩
set_option maxRecDepth 100000 in
theorem gMo11 : gMok gM11 := ⟨Or.inl ⟨rfl, (gAt 267 rfl (by decide +kernel))⟩, (fun _ => ⟨rfl, rfl, (gAt 267 rfl (by decide +kernel))⟩), by decide +kernel, by decide +kernel⟩
set_option maxRecDepth 100000 in
theorem gMo12 : gMok gM12 := ⟨Or.inl ⟨rfl, (gAt 301 rfl (by decide +kernel))⟩, (fun _ => ⟨rfl, rfl, (gAt 301 rfl (by decide +kernel))⟩), by decide +kernel, by decide +kernel⟩
set_option maxRecDepth 100000 in
theorem gMo13 : gMok gM13 := ⟨Or.inl ⟨rfl, (gAt 342 rfl (by decide +kernel))⟩, (fun _ => ⟨rfl, rfl, (gAt 342 rfl (by decide +kernel))⟩), by decide +kernel, by decide +kernel⟩
set_option maxRecDepth 100000 in
theorem gMo14 : gMok gM14 := ⟨Or.inl ⟨rfl, (gAt 375 rfl (by decide +kernel))⟩, (fun _ => ⟨rfl, rfl, (gAt 375 rfl (by decide +kernel))⟩), by decide +kernel, by decide +kernel⟩
set_option maxRecDepth 100000 in
theorem gMo15 : gMok gM15 := ⟨Or.inl ⟨rfl, (gAt 333 rfl (by decide +kernel))⟩, (fun _ => ⟨rfl, rfl, (gAt 333 rfl (by decide +kernel))⟩), by decide +kernel, by decide +kernel⟩
set_option maxRecDepth 100000 in
theorem gMo16 : gMok gM16 := ⟨Or.inl ⟨rfl, (gAt 145 rfl (by decide +kernel))⟩, (fun _ => ⟨rfl, rfl, (gAt 145 rfl (by decide +kernel))⟩), by decide +kernel, by decide +kernel⟩
set_option maxRecDepth 100000 in
theorem gMo17 : gMok gM17 := ⟨Or.inl ⟨rfl, (gAt 1131 rfl (by decide +kernel))⟩, (fun _ => ⟨rfl, rfl, (gAt 1131 rfl (by decide +kernel))⟩), by decide +kernel, by decide +kernel⟩
set_option maxRecDepth 100000 in
theorem gMo18 : gMok gM18 := ⟨Or.inl ⟨rfl, (gAt 568 rfl (by decide +kernel))⟩, (fun h => absurd h (by decide +kernel)), by decide +kernel, by decide +kernel⟩
set_option maxRecDepth 100000 in
theorem gMo19 : gMok gM19 := ⟨Or.inl ⟨rfl, (gAt 565 rfl (by decide +kernel))⟩, (fun h => absurd h (by decide +kernel)), by decide +kernel, by decide +kernel⟩
set_option maxRecDepth 100000 in
theorem gMo20 : gMok gM20 := ⟨Or.inl ⟨rfl, (gAt 562 rfl (by decide +kernel))⟩, (fun h => absurd h (by decide +kernel)), by decide +kernel, by decide +kernel⟩
set_option maxRecDepth 100000 in
theorem gMo21 : gMok gM21 := ⟨Or.inr (gAt 556 rfl (by decide +kernel)), (fun h => absurd h (by decide +kernel)), by decide +kernel, by decide +kernel⟩
set_option maxRecDepth 100000 in
theorem gMo22 : gMok gM22 := ⟨Or.inl ⟨rfl, (gAt 1319 rfl (by decide +kernel))⟩, (fun h => absurd h (by decide +kernel)), by decide +kernel, by decide +kernel⟩
set_option maxRecDepth 100000 in
theorem gMo23 : gMok gM23 := ⟨Or.inl ⟨rfl, (gAt 1323 rfl (by decide +kernel))⟩, (fun h => absurd h (by decide +kernel)), by decide +kernel, by decide +kernel⟩
set_option maxRecDepth 100000 in
theorem gMo24 : gMok gM24 := ⟨Or.inl ⟨rfl, (gAt 1327 rfl (by decide +kernel))⟩, (fun h => absurd h (by decide +kernel)), by decide +kernel, by decide +kernel⟩
set_option maxRecDepth 100000 in
theorem gMo25 : gMok gM25 := ⟨Or.inl ⟨rfl, (gAt 1316 rfl (by decide +kernel))⟩, (fun h => absurd h (by decide +kernel)), by decide +kernel, by decide +kernel⟩
set_option maxRecDepth 100000 in
theorem gMo26 : gMok gM26 := ⟨Or.inl ⟨rfl, (gAt 1312 rfl (by decide +kernel))⟩, (fun h => absurd h (by decide +kernel)), by decide +kernel, by decide +kernel⟩
set_option maxRecDepth 100000 in
theorem gMo27 : gMok gM27 := ⟨Or.inl ⟨rfl, (gAt 655 rfl (by decide +kernel))⟩, (fun h => absurd h (by decide +kernel)), by decide +kernel, by decide +kernel⟩
set_option maxRecDepth 100000 in
theorem gMo28 : gMok gM28 := ⟨Or.inr (gAt 651 rfl (by decide +kernel)), (fun h => absurd h (by decide +kernel)), by decide +kernel, by decide +kernel⟩
set_option maxRecDepth 100000 in
theorem gMo29 : gMok gM29 := ⟨Or.inl ⟨rfl, (gAt 1331 rfl (by decide +kernel))⟩, (fun h => absurd h (by decide +kernel)), by decide +kernel, by decide +kernel⟩
set_option maxRecDepth 100000 in
theorem gMo30 : gMok gM30 := ⟨Or.inl ⟨rfl, (gAt 670 rfl (by decide +kernel))⟩, (fun h => absurd h (by decide +kernel)), by decide +kernel, by decide +kernel⟩
set_option maxRecDepth 100000 in
theorem gMo31 : gMok gM31 := ⟨Or.inl ⟨rfl, (gAt 677 rfl (by decide +kernel))⟩, (fun h => absurd h (by decide +kernel)), by decide +kernel, by decide +kernel⟩
set_option maxRecDepth 100000 in
theorem gMo32 : gMok gM32 := ⟨Or.inl ⟨rfl, (gAt 685 rfl (by decide +kernel))⟩, (fun h => absurd h (by decide +kernel)), by decide +kernel, by decide +kernel⟩
set_option maxRecDepth 100000 in
theorem gMo33 : gMok gM33 := ⟨Or.inl ⟨rfl, (gAt 681 rfl (by decide +kernel))⟩, (fun h => absurd h (by decide +kernel)), by decide +kernel, by decide +kernel⟩
set_option maxRecDepth 100000 in
theorem gMo34 : gMok gM34 := ⟨Or.inl ⟨rfl, (gAt 688 rfl (by decide +kernel))⟩, (fun h => absurd h (by decide +kernel)), by decide +kernel, by decide +kernel⟩
set_option maxRecDepth 100000 in
theorem gMo35 : gMok gM35 := ⟨Or.inl ⟨rfl, (gAt 692 rfl (by decide +kernel))⟩, (fun h => absurd h (by decide +kernel)), by decide +kernel, by decide +kernel⟩
set_option maxRecDepth 100000 in
theorem gMo36 : gMok gM36 := ⟨Or.inl ⟨rfl, (gAt 674 rfl (by decide +kernel))⟩, (fun h => absurd h (by decide +kernel)), by decide +kernel, by decide +kernel⟩
set_option maxRecDepth 100000 in
theorem gMo37 : gMok gM37 := ⟨Or.inl ⟨rfl, (gAt 700 rfl (by decide +kernel))⟩, (fun h => absurd h (by decide +kernel)), by decide +kernel, by decide +kernel⟩
set_option maxRecDepth 100000 in
theorem gMo38 : gMok gM38 := ⟨Or.inl ⟨rfl, (gAt 704 rfl (by decide +kernel))⟩, (fun h => absurd h (by decide +kernel)), by decide +kernel, by decide +kernel⟩
set_option maxRecDepth 100000 in
theorem gMo39 : gMok gM39 := ⟨Or.inl ⟨rfl, (gAt 708 rfl (by decide +kernel))⟩, (fun h => absurd h (by decide +kernel)), by decide +kernel, by decide +kernel⟩
set_option maxRecDepth 100000 in
theorem gMo40 : gMok gM40 := ⟨Or.inl ⟨rfl, (gAt 719 rfl (by decide +kernel))⟩, (fun h => absurd h (by decide +kernel)), by decide +kernel, by decide +kernel⟩
set_option maxRecDepth 100000 in
theorem gMo41 : gMok gM41 := ⟨Or.inl ⟨rfl, (gAt 716 rfl (by decide +kernel))⟩, (fun h => absurd h (by decide +kernel)), by decide +kernel, by decide +kernel⟩
set_option maxRecDepth 100000 in
theorem gMo42 : gMok gM42 := ⟨Or.inl ⟨rfl, (gAt 712 rfl (by decide +kernel))⟩, (fun h => absurd h (by decide +kernel)), by decide +kernel, by decide +kernel⟩
set_option maxRecDepth 100000 in
theorem gMo43 : gMok gM43 := ⟨Or.inl ⟨rfl, (gAt 723 rfl (by decide +kernel))⟩, (fun h => absurd h (by decide +kernel)), by decide +kernel, by decide +kernel⟩
set_option maxRecDepth 100000 in
theorem gMo44 : gMok gM44 := ⟨Or.inl ⟨rfl, (gAt 727 rfl (by decide +kernel))⟩, (fun h => absurd h (by decide +kernel)), by decide +kernel, by decide +kernel⟩
set_option maxRecDepth 100000 in
theorem gMo45 : gMok gM45 := ⟨Or.inl ⟨rfl, (gAt 696 rfl (by decide +kernel))⟩, (fun h => absurd h (by decide +kernel)), by decide +kernel, by decide +kernel⟩
set_option maxRecDepth 100000 in
theorem gMo46 : gMok gM46 := ⟨Or.inl ⟨rfl, (gAt 739 rfl (by decide +kernel))⟩, (fun h => absurd h (by decide +kernel)), by decide +kernel, by decide +kernel⟩
set_option maxRecDepth 100000 in
theorem gMo47 : gMok gM47 := ⟨Or.inl ⟨rfl, (gAt 743 rfl (by decide +kernel))⟩, (fun h => absurd h (by decide +kernel)), by decide +kernel, by decide +kernel⟩
set_option maxRecDepth 100000 in
theorem gMo48 : gMok gM48 := ⟨Or.inl ⟨rfl, (gAt 735 rfl (by decide +kernel))⟩, (fun h => absurd h (by decide +kernel)), by decide +kernel, by decide +kernel⟩
set_option maxRecDepth 100000 in
theorem gMo49 : gMok gM49 := ⟨Or.inl ⟨rfl, (gAt 731 rfl (by decide +kernel))⟩, (fun h => absurd h (by decide +kernel)), by decide +kernel, by decide +kernel⟩
set_option maxRecDepth 100000 in
theorem gMo50 : gMok gM50 := ⟨Or.inl ⟨rfl, (gAt 755 rfl (by decide +kernel))⟩, (fun h => absurd h (by decide +kernel)), by decide +kernel, by decide +kernel⟩
set_option maxRecDepth 100000 in
theorem gMo51 : gMok gM51 := ⟨Or.inl ⟨rfl, (gAt 751 rfl (by decide +kernel))⟩, (fun h => absurd h (by decide +kernel)), by decide +kernel, by decide +kernel⟩
set_option maxRecDepth 100000 in
theorem gMo52 : gMok gM52 := ⟨Or.inl ⟨rfl, (gAt 771 rfl (by decide +kernel))⟩, (fun h => absurd h (by decide +kernel)), by decide +kernel, by decide +kernel⟩
set_option maxRecDepth 100000 in
theorem gMo53 : gMok gM53 := ⟨Or.inl ⟨rfl, (gAt 767 rfl (by decide +kernel))⟩, (fun h => absurd h (by decide +kernel)), by decide +kernel, by decide +kernel⟩
set_option maxRecDepth 100000 in
theorem gMo54 : gMok gM54 := ⟨Or.inl ⟨rfl, (gAt 763 rfl (by decide +kernel))⟩, (fun h => absurd h (by decide +kernel)), by decide +kernel, by decide +kernel⟩
set_option maxRecDepth 100000 in
theorem gMo55 : gMok gM55 := ⟨Or.inl ⟨rfl, (gAt 759 rfl (by decide +kernel))⟩, (fun h => absurd h (by decide +kernel)), by decide +kernel, by decide +kernel⟩
set_option maxRecDepth 100000 in
theorem gMo56 : gMok gM56 := ⟨Or.inl ⟨rfl, (gAt 779 rfl (by decide +kernel))⟩, (fun h => absurd h (by decide +kernel)), by decide +kernel, by decide +kernel⟩
set_option maxRecDepth 100000 in
theorem gMo57 : gMok gM57 := ⟨Or.inl ⟨rfl, (gAt 791 rfl (by decide +kernel))⟩, (fun h => absurd h (by decide +kernel)), by decide +kernel, by decide +kernel⟩
set_option maxRecDepth 100000 in
theorem gMo58 : gMok gM58 := ⟨Or.inl ⟨rfl, (gAt 787 rfl (by decide +kernel))⟩, (fun h => absurd h (by decide +kernel)), by decide +kernel, by decide +kernel⟩
set_option maxRecDepth 100000 in
theorem gMo59 : gMok gM59 := ⟨Or.inl ⟨rfl, (gAt 783 rfl (by decide +kernel))⟩, (fun h => absurd h (by decide +kernel)), by decide +kernel, by decide +kernel⟩
set_option maxRecDepth 100000 in
theorem gMo60 : gMok gM60 := ⟨Or.inl ⟨rfl, (gAt 796 rfl (by decide +kernel))⟩, (fun h => absurd h (by decide +kernel)), by decide +kernel, by decide +kernel⟩
set_option maxRecDepth 100000 in
theorem gMo61 : gMok gM61 := ⟨Or.inl ⟨rfl, (gAt 808 rfl (by decide +kernel))⟩, (fun h => absurd h (by decide +kernel)), by decide +kernel, by decide +kernel⟩
set_option maxRecDepth 100000 in
theorem gMo62 : gMok gM62 := ⟨Or.inl ⟨rfl, (gAt 812 rfl (by decide +kernel))⟩, (fun h => absurd h (by decide +kernel)), by decide +kernel, by decide +kernel⟩
set_option maxRecDepth 100000 in
theorem gMo63 : gMok gM63 := ⟨Or.inl ⟨rfl, (gAt 816 rfl (by decide +kernel))⟩, (fun h => absurd h (by decide +kernel)), by decide +kernel, by decide +kernel⟩
set_option maxRecDepth 100000 in
theorem gMo64 : gMok gM64 := ⟨Or.inl ⟨rfl, (gAt 804 rfl (by decide +kernel))⟩, (fun h => absurd h (by decide +kernel)), by decide +kernel, by decide +kernel⟩
set_option maxRecDepth 100000 in
theorem gMo65 : gMok gM65 := ⟨Or.inl ⟨rfl, (gAt 824 rfl (by decide +kernel))⟩, (fun h => absurd h (by decide +kernel)), by decide +kernel, by decide +kernel⟩
set_option maxRecDepth 100000 in
theorem gMo66 : gMok gM66 := ⟨Or.inl ⟨rfl, (gAt 820 rfl (by decide +kernel))⟩, (fun h => absurd h (by decide +kernel)), by decide +kernel, by decide +kernel⟩
set_option maxRecDepth 100000 in
theorem gMo67 : gMok gM67 := ⟨Or.inl ⟨rfl, (gAt 828 rfl (by decide +kernel))⟩, (fun h => absurd h (by decide +kernel)), by decide +kernel, by decide +kernel⟩
set_option maxRecDepth 100000 in
theorem gMo68 : gMok gM68 := ⟨Or.inl ⟨rfl, (gAt 800 rfl (by decide +kernel))⟩, (fun h => absurd h (by decide +kernel)), by decide +kernel, by decide +kernel⟩
set_option maxRecDepth 100000 in
theorem gMo69 : gMok gM69 := ⟨Or.inl ⟨rfl, (gAt 775 rfl (by decide +kernel))⟩, (fun h => absurd h (by decide +kernel)), by decide +kernel, by decide +kernel⟩
set_option maxRecDepth 100000 in
theorem gMo70 : gMok gM70 := ⟨Or.inl ⟨rfl, (gAt 747 rfl (by decide +kernel))⟩, (fun h => absurd h (by decide +kernel)), by decide +kernel, by decide +kernel⟩
set_option maxRecDepth 100000 in
theorem gMo71 : gMok gM71 := ⟨Or.inl ⟨rfl, (gAt 832 rfl (by decide +kernel))⟩, (fun h => absurd h (by decide +kernel)), by decide +kernel, by decide +kernel⟩
set_option maxRecDepth 100000 in
theorem gMo72 : gMok gM72 := ⟨Or.inl ⟨rfl, (gAt 842 rfl (by decide +kernel))⟩, (fun h => absurd h (by decide +kernel)), by decide +kernel, by decide +kernel⟩
set_option maxRecDepth 100000 in
theorem gMo73 : gMok gM73 := ⟨Or.inl ⟨rfl, (gAt 836 rfl (by decide +kernel))⟩, (fun h => absurd h (by decide +kernel)), by decide +kernel, by decide +kernel⟩
set_option maxRecDepth 100000 in
theorem gMo74 : gMok gM74 := ⟨Or.inl ⟨rfl, (gAt 666 rfl (by decide +kernel))⟩, (fun h => absurd h (by decide +kernel)), by decide +kernel, by decide +kernel⟩
set_option maxRecDepth 100000 in
theorem gMo75 : gMok gM75 := ⟨Or.inl ⟨rfl, (gAt 856 rfl (by decide +kernel))⟩, (fun h => absurd h (by decide +kernel)), by decide +kernel, by decide +kernel⟩
set_option maxRecDepth 100000 in
theorem gMo76 : gMok gM76 := ⟨Or.inl ⟨rfl, (gAt 853 rfl (by decide +kernel))⟩, (fun h => absurd h (by decide +kernel)), by decide +kernel, by decide +kernel⟩
set_option maxRecDepth 100000 in
theorem gMo77 : gMok gM77 := ⟨Or.inl ⟨rfl, (gAt 850 rfl (by decide +kernel))⟩, (fun h => absurd h (by decide +kernel)), by decide +kernel, by decide +kernel⟩
set_option maxRecDepth 100000 in
theorem gMo78 : gMok gM78 := ⟨Or.inl ⟨rfl, (gAt 861 rfl (by decide +kernel))⟩, (fun h => absurd h (by decide +kernel)), by decide +kernel, by decide +kernel⟩
set_option maxRecDepth 100000 in
theorem gMo79 : gMok gM79 := ⟨Or.inl ⟨rfl, (gAt 869 rfl (by decide +kernel))⟩, (fun h => absurd h (by decide +kernel)), by decide +kernel, by decide +kernel⟩
set_option maxRecDepth 100000 in
theorem gMo80 : gMok gM80 := ⟨Or.inl ⟨rfl, (gAt 873 rfl (by decide +kernel))⟩, (fun h => absurd h (by decide +kernel)), by decide +kernel, by decide +kernel⟩
set_option maxRecDepth 100000 in
theorem gMo81 : gMok gM81 := ⟨Or.inl ⟨rfl, (gAt 881 rfl (by decide +kernel))⟩, (fun h => absurd h (by decide +kernel)), by decide +kernel, by decide +kernel⟩
set_option maxRecDepth 100000 in
theorem gMo82 : gMok gM82 := ⟨Or.inl ⟨rfl, (gAt 877 rfl (by decide +kernel))⟩, (fun h => absurd h (by decide +kernel)), by decide +kernel, by decide +kernel⟩
set_option maxRecDepth 100000 in
theorem gMo83 : gMok gM83 := ⟨Or.inl ⟨rfl, (gAt 889 rfl (by decide +kernel))⟩, (fun h => absurd h (by decide +kernel)), by decide +kernel, by decide +kernel⟩
set_option maxRecDepth 100000 in
theorem gMo84 : gMok gM84 := ⟨Or.inl ⟨rfl, (gAt 885 rfl (by decide +kernel))⟩, (fun h => absurd h (by decide +kernel)), by decide +kernel, by decide +kernel⟩
set_option maxRecDepth 100000 in
theorem gMo85 : gMok gM85 := ⟨Or.inl ⟨rfl, (gAt 893 rfl (by decide +kernel))⟩, (fun h => absurd h (by decide +kernel)), by decide +kernel, by decide +kernel⟩
set_option maxRecDepth 100000 in
theorem gMo86 : gMok gM86 := ⟨Or.inl ⟨rfl, (gAt 898 rfl (by decide +kernel))⟩, (fun h => absurd h (by decide +kernel)), by decide +kernel, by decide +kernel⟩
set_option maxRecDepth 100000 in
theorem gMo87 : gMok gM87 := ⟨Or.inl ⟨rfl, (gAt 911 rfl (by decide +kernel))⟩, (fun h => absurd h (by decide +kernel)), by decide +kernel, by decide +kernel⟩
set_option maxRecDepth 100000 in
theorem gMo88 : gMok gM88 := ⟨Or.inl ⟨rfl, (gAt 907 rfl (by decide +kernel))⟩, (fun h => absurd h (by decide +kernel)), by decide +kernel, by decide +kernel⟩
set_option maxRecDepth 100000 in
theorem gMo89 : gMok gM89 := ⟨Or.inl ⟨rfl, (gAt 903 rfl (by decide +kernel))⟩, (fun h => absurd h (by decide +kernel)), by decide +kernel, by decide +kernel⟩
set_option maxRecDepth 100000 in
theorem gMo90 : gMok gM90 := ⟨Or.inl ⟨rfl, (gAt 865 rfl (by decide +kernel))⟩, (fun h => absurd h (by decide +kernel)), by decide +kernel, by decide +kernel⟩
set_option maxRecDepth 100000 in
theorem gMo91 : gMok gM91 := ⟨Or.inl ⟨rfl, (gAt 846 rfl (by decide +kernel))⟩, (fun h => absurd h (by decide +kernel)), by decide +kernel, by decide +kernel⟩
set_option maxRecDepth 100000 in
theorem gMo92 : gMok gM92 := ⟨Or.inl ⟨rfl, (gAt 915 rfl (by decide +kernel))⟩, (fun h => absurd h (by decide +kernel)), by decide +kernel, by decide +kernel⟩
set_option maxRecDepth 100000 in
theorem gMo93 : gMok gM93 := ⟨Or.inl ⟨rfl, (gAt 920 rfl (by decide +kernel))⟩, (fun h => absurd h (by decide +kernel)), by decide +kernel, by decide +kernel⟩
set_option maxRecDepth 100000 in
theorem gMo94 : gMok gM94 := ⟨Or.inl ⟨rfl, (gAt 662 rfl (by decide +kernel))⟩, (fun h => absurd h (by decide +kernel)), by decide +kernel, by decide +kernel⟩
set_option maxRecDepth 100000 in
theorem gMo95 : gMok gM95 := ⟨Or.inr (gAt 658 rfl (by decide +kernel)), (fun h => absurd h (by decide +kernel)), by decide +kernel, by decide +kernel⟩
set_option maxRecDepth 100000 in
theorem gMo96 : gMok gM96 := ⟨Or.inl ⟨rfl, (gAt 1339 rfl (by decide +kernel))⟩, (fun h => absurd h (by decide +kernel)), by decide +kernel, by decide +kernel⟩
set_option maxRecDepth 100000 in
theorem gMo97 : gMok gM97 := ⟨Or.inl ⟨rfl, (gAt 1346 rfl (by decide +kernel))⟩, (fun h => absurd h (by decide +kernel)), by decide +kernel, by decide +kernel⟩
set_option maxRecDepth 100000 in
theorem gMo98 : gMok gM98 := ⟨Or.inl ⟨rfl, (gAt 1349 rfl (by decide +kernel))⟩, (fun h => absurd h (by decide +kernel)), by decide +kernel, by decide +kernel⟩
set_option maxRecDepth 100000 in
theorem gMo99 : gMok gM99 := ⟨Or.inl ⟨rfl, (gAt 1343 rfl (by decide +kernel))⟩, (fun h => absurd h (by decide +kernel)), by decide +kernel, by decide +kernel⟩
set_option maxRecDepth 100000 in
theorem gMo100 : gMok gM100 := ⟨Or.inl ⟨rfl, (gAt 1367 rfl (by decide +kernel))⟩, (fun h => absurd h (by decide +kernel)), by decide +kernel, by decide +kernel⟩
set_option maxRecDepth 100000 in
theorem gMo101 : gMok gM101 := ⟨Or.inl ⟨rfl, (gAt 1364 rfl (by decide +kernel))⟩, (fun h => absurd h (by decide +kernel)), by decide +kernel, by decide +kernel⟩
set_option maxRecDepth 100000 in
theorem gMo102 : gMok gM102 := ⟨Or.inl ⟨rfl, (gAt 1371 rfl (by decide +kernel))⟩, (fun h => absurd h (by decide +kernel)), by decide +kernel, by decide +kernel⟩
set_option maxRecDepth 100000 in
theorem gMo103 : gMok gM103 := ⟨Or.inl ⟨rfl, (gAt 1361 rfl (by decide +kernel))⟩, (fun h => absurd h (by decide +kernel)), by decide +kernel, by decide +kernel⟩
set_option maxRecDepth 100000 in
theorem gMo104 : gMok gM104 := ⟨Or.inl ⟨rfl, (gAt 1379 rfl (by decide +kernel))⟩, (fun h => absurd h (by decide +kernel)), by decide +kernel, by decide +kernel⟩
set_option maxRecDepth 100000 in
theorem gMo105 : gMok gM105 := ⟨Or.inl ⟨rfl, (gAt 1375 rfl (by decide +kernel))⟩, (fun h => absurd h (by decide +kernel)), by decide +kernel, by decide +kernel⟩
set_option maxRecDepth 100000 in
theorem gMo106 : gMok gM106 := ⟨Or.inl ⟨rfl, (gAt 1387 rfl (by decide +kernel))⟩, (fun h => absurd h (by decide +kernel)), by decide +kernel, by decide +kernel⟩
set_option maxRecDepth 100000 in
theorem gMo107 : gMok gM107 := ⟨Or.inl ⟨rfl, (gAt 1391 rfl (by decide +kernel))⟩, (fun h => absurd h (by decide +kernel)), by decide +kernel, by decide +kernel⟩
set_option maxRecDepth 100000 in
theorem gMo108 : gMok gM108 := ⟨Or.inl ⟨rfl, (gAt 1395 rfl (by decide +kernel))⟩, (fun h => absurd h (by decide +kernel)), by decide +kernel, by decide +kernel⟩
set_option maxRecDepth 100000 in
theorem gMo109 : gMok gM109 := ⟨Or.inl ⟨rfl, (gAt 1399 rfl (by decide +kernel))⟩, (fun h => absurd h (by decide +kernel)), by decide +kernel, by decide +kernel⟩
set_option maxRecDepth 100000 in
theorem gMo110 : gMok gM110 := ⟨Or.inl ⟨rfl, (gAt 1403 rfl (by decide +kernel))⟩, (fun h => absurd h (by decide +kernel)), by decide +kernel, by decide +kernel⟩
set_option maxRecDepth 100000 in
theorem gMo111 : gMok gM111 := ⟨Or.inl ⟨rfl, (gAt 1407 rfl (by decide +kernel))⟩, (fun h => absurd h (by decide +kernel)), by decide +kernel, by decide +kernel⟩
set_option maxRecDepth 100000 in
theorem gMo112 : gMok gM112 := ⟨Or.inl ⟨rfl, (gAt 1411 rfl (by decide +kernel))⟩, (fun h => absurd h (by decide +kernel)), by decide +kernel, by decide +kernel⟩
set_option maxRecDepth 100000 in
theorem gMo113 : gMok gM113 := ⟨Or.inl ⟨rfl, (gAt 1415 rfl (by decide +kernel))⟩, (fun h => absurd h (by decide +kernel)), by decide +kernel, by decide +kernel⟩
set_option maxRecDepth 100000 in
theorem gMo114 : gMok gM114 := ⟨Or.inl ⟨rfl, (gAt 1419 rfl (by decide +kernel))⟩, (fun h => absurd h (by decide +kernel)), by decide +kernel, by decide +kernel⟩
set_option maxRecDepth 100000 in
theorem gMo115 : gMok gM115 := ⟨Or.inl ⟨rfl, (gAt 1383 rfl (by decide +kernel))⟩, (fun h => absurd h (by decide +kernel)), by decide +kernel, by decide +kernel⟩
set_option maxRecDepth 100000 in
theorem gMo116 : gMok gM116 := ⟨Or.inl ⟨rfl, (gAt 1423 rfl (by decide +kernel))⟩, (fun h => absurd h (by decide +kernel)), by decide +kernel, by decide +kernel⟩
set_option maxRecDepth 100000 in
theorem gMo117 : gMok gM117 := ⟨Or.inl ⟨rfl, (gAt 1427 rfl (by decide +kernel))⟩, (fun h => absurd h (by decide +kernel)), by decide +kernel, by decide +kernel⟩
set_option maxRecDepth 100000 in
theorem gMo118 : gMok gM118 := ⟨Or.inl ⟨rfl, (gAt 1431 rfl (by decide +kernel))⟩, (fun h => absurd h (by decide +kernel)), by decide +kernel, by decide +kernel⟩
set_option maxRecDepth 100000 in
theorem gMo119 : gMok gM119 := ⟨Or.inl ⟨rfl, (gAt 1357 rfl (by decide +kernel))⟩, (fun h => absurd h (by decide +kernel)), by decide +kernel, by decide +kernel⟩
set_option maxRecDepth 100000 in
theorem gMo120 : gMok gM120 := ⟨Or.inl ⟨rfl, (gAt 1439 rfl (by decide +kernel))⟩, (fun h => absurd h (by decide +kernel)), by decide +kernel, by decide +kernel⟩
set_option maxRecDepth 100000 in
theorem gMo121 : gMok gM121 := ⟨Or.inl ⟨rfl, (gAt 1443 rfl (by decide +kernel))⟩, (fun h => absurd h (by decide +kernel)), by decide +kernel, by decide +kernel⟩
set_option maxRecDepth 100000 in
theorem gMo122 : gMok gM122 := ⟨Or.inl ⟨rfl, (gAt 1435 rfl (by decide +kernel))⟩, (fun h => absurd h (by decide +kernel)), by decide +kernel, by decide +kernel⟩
set_option maxRecDepth 100000 in
theorem gMo123 : gMok gM123 := ⟨Or.inl ⟨rfl, (gAt 1451 rfl (by decide +kernel))⟩, (fun h => absurd h (by decide +kernel)), by decide +kernel, by decide +kernel⟩
set_option maxRecDepth 100000 in
theorem gMo124 : gMok gM124 := ⟨Or.inl ⟨rfl, (gAt 1455 rfl (by decide +kernel))⟩, (fun h => absurd h (by decide +kernel)), by decide +kernel, by decide +kernel⟩
set_option maxRecDepth 100000 in
theorem gMo125 : gMok gM125 := ⟨Or.inl ⟨rfl, (gAt 1459 rfl (by decide +kernel))⟩, (fun h => absurd h (by decide +kernel)), by decide +kernel, by decide +kernel⟩
set_option maxRecDepth 100000 in
theorem gMo126 : gMok gM126 := ⟨Or.inl ⟨rfl, (gAt 1447 rfl (by decide +kernel))⟩, (fun h => absurd h (by decide +kernel)), by decide +kernel, by decide +kernel⟩
set_option maxRecDepth 100000 in
theorem gMo127 : gMok gM127 := ⟨Or.inl ⟨rfl, (gAt 1467 rfl (by decide +kernel))⟩, (fun h => absurd h (by decide +kernel)), by decide +kernel, by decide +kernel⟩
set_option maxRecDepth 100000 in
theorem gMo128 : gMok gM128 := ⟨Or.inl ⟨rfl, (gAt 1475 rfl (by decide +kernel))⟩, (fun h => absurd h (by decide +kernel)), by decide +kernel, by decide +kernel⟩
set_option maxRecDepth 100000 in
theorem gMo129 : gMok gM129 := ⟨Or.inl ⟨rfl, (gAt 1471 rfl (by decide +kernel))⟩, (fun h => absurd h (by decide +kernel)), by decide +kernel, by decide +kernel⟩
set_option maxRecDepth 100000 in
theorem gMo130 : gMok gM130 := ⟨Or.inl ⟨rfl, (gAt 1483 rfl (by decide +kernel))⟩, (fun h => absurd h (by decide +kernel)), by decide +kernel, by decide +kernel⟩
set_option maxRecDepth 100000 in
theorem gMo131 : gMok gM131 := ⟨Or.inl ⟨rfl, (gAt 1479 rfl (by decide +kernel))⟩, (fun h => absurd h (by decide +kernel)), by decide +kernel, by decide +kernel⟩
set_option maxRecDepth 100000 in
theorem gMo132 : gMok gM132 := ⟨Or.inl ⟨rfl, (gAt 1495 rfl (by decide +kernel))⟩, (fun h => absurd h (by decide +kernel)), by decide +kernel, by decide +kernel⟩
set_option maxRecDepth 100000 in
theorem gMo133 : gMok gM133 := ⟨Or.inl ⟨rfl, (gAt 1491 rfl (by decide +kernel))⟩, (fun h => absurd h (by decide +kernel)), by decide +kernel, by decide +kernel⟩
set_option maxRecDepth 100000 in
theorem gMo134 : gMok gM134 := ⟨Or.inl ⟨rfl, (gAt 1507 rfl (by decide +kernel))⟩, (fun h => absurd h (by decide +kernel)), by decide +kernel, by decide +kernel⟩
set_option maxRecDepth 100000 in
theorem gMo135 : gMok gM135 := ⟨Or.inl ⟨rfl, (gAt 1503 rfl (by decide +kernel))⟩, (fun h => absurd h (by decide +kernel)), by decide +kernel, by decide +kernel⟩
set_option maxRecDepth 100000 in
theorem gMo136 : gMok gM136 := ⟨Or.inl ⟨rfl, (gAt 1511 rfl (by decide +kernel))⟩, (fun h => absurd h (by decide +kernel)), by decide +kernel, by decide +kernel⟩
set_option maxRecDepth 100000 in
theorem gMo137 : gMok gM137 := ⟨Or.inl ⟨rfl, (gAt 1499 rfl (by decide +kernel))⟩, (fun h => absurd h (by decide +kernel)), by decide +kernel, by decide +kernel⟩
set_option maxRecDepth 100000 in
theorem gMo138 : gMok gM138 := ⟨Or.inl ⟨rfl, (gAt 1487 rfl (by decide +kernel))⟩, (fun h => absurd h (by decide +kernel)), by decide +kernel, by decide +kernel⟩
set_option maxRecDepth 100000 in
theorem gMo139 : gMok gM139 := ⟨Or.inl ⟨rfl, (gAt 1463 rfl (by decide +kernel))⟩, (fun h => absurd h (by decide +kernel)), by decide +kernel, by decide +kernel⟩
set_option maxRecDepth 100000 in
theorem gMo140 : gMok gM140 := ⟨Or.inl ⟨rfl, (gAt 1353 rfl (by decide +kernel))⟩, (fun h => absurd h (by decide +kernel)), by decide +kernel, by decide +kernel⟩
set_option maxRecDepth 100000 in
theorem gMo141 : gMok gM141 := ⟨Or.inl ⟨rfl, (gAt 1515 rfl (by decide +kernel))⟩, (fun h => absurd h (by decide +kernel)), by decide +kernel, by decide +kernel⟩
set_option maxRecDepth 100000 in
theorem gMo142 : gMok gM142 := ⟨Or.inl ⟨rfl, (gAt 1527 rfl (by decide +kernel))⟩, (fun h => absurd h (by decide +kernel)), by decide +kernel, by decide +kernel⟩
set_option maxRecDepth 100000 in
theorem gMo143 : gMok gM143 := ⟨Or.inl ⟨rfl, (gAt 1523 rfl (by decide +kernel))⟩, (fun h => absurd h (by decide +kernel)), by decide +kernel, by decide +kernel⟩
set_option maxRecDepth 100000 in
theorem gMo144 : gMok gM144 := ⟨Or.inl ⟨rfl, (gAt 1531 rfl (by decide +kernel))⟩, (fun h => absurd h (by decide +kernel)), by decide +kernel, by decide +kernel⟩
set_option maxRecDepth 100000 in
theorem gMo145 : gMok gM145 := ⟨Or.inl ⟨rfl, (gAt 1539 rfl (by decide +kernel))⟩, (fun h => absurd h (by decide +kernel)), by decide +kernel, by decide +kernel⟩
set_option maxRecDepth 100000 in
theorem gMo146 : gMok gM146 := ⟨Or.inl ⟨rfl, (gAt 1543 rfl (by decide +kernel))⟩, (fun h => absurd h (by decide +kernel)), by decide +kernel, by decide +kernel⟩
set_option maxRecDepth 100000 in
theorem gMo147 : gMok gM147 := ⟨Or.inl ⟨rfl, (gAt 1547 rfl (by decide +kernel))⟩, (fun h => absurd h (by decide +kernel)), by decide +kernel, by decide +kernel⟩
set_option maxRecDepth 100000 in
theorem gMo148 : gMok gM148 := ⟨Or.inl ⟨rfl, (gAt 1551 rfl (by decide +kernel))⟩, (fun h => absurd h (by decide +kernel)), by decide +kernel, by decide +kernel⟩
set_option maxRecDepth 100000 in
theorem gMo149 : gMok gM149 := ⟨Or.inl ⟨rfl, (gAt 1555 rfl (by decide +kernel))⟩, (fun h => absurd h (by decide +kernel)), by decide +kernel, by decide +kernel⟩
set_option maxRecDepth 100000 in
theorem gMo150 : gMok gM150 := ⟨Or.inl ⟨rfl, (gAt 1535 rfl (by decide +kernel))⟩, (fun h => absurd h (by decide +kernel)), by decide +kernel, by decide +kernel⟩
set_option maxRecDepth 100000 in
theorem gMo151 : gMok gM151 := ⟨Or.inl ⟨rfl, (gAt 1519 rfl (by decide +kernel))⟩, (fun h => absurd h (by decide +kernel)), by decide +kernel, by decide +kernel⟩
set_option maxRecDepth 100000 in
theorem gMo152 : gMok gM152 := ⟨Or.inl ⟨rfl, (gAt 1335 rfl (by decide +kernel))⟩, (fun h => absurd h (by decide +kernel)), by decide +kernel, by decide +kernel⟩
set_option maxRecDepth 100000 in
theorem gMo153 : gMok gM153 := ⟨Or.inl ⟨rfl, (gAt 553 rfl (by decide +kernel))⟩, (fun h => absurd h (by decide +kernel)), by decide +kernel, by decide +kernel⟩
set_option maxRecDepth 100000 in
theorem gMo154 : gMok gM154 := ⟨Or.inl ⟨rfl, (gAt 1559 rfl (by decide +kernel))⟩, (fun h => absurd h (by decide +kernel)), by decide +kernel, by decide +kernel⟩
set_option maxRecDepth 100000 in
theorem gMo155 : gMok gM155 := ⟨Or.inl ⟨rfl, (gAt 935 rfl (by decide +kernel))⟩, (fun h => absurd h (by decide +kernel)), by decide +kernel, by decide +kernel⟩
set_option maxRecDepth 100000 in
theorem gMo156 : gMok gM156 := ⟨Or.inl ⟨rfl, (gAt 932 rfl (by decide +kernel))⟩, (fun h => absurd h (by decide +kernel)), by decide +kernel, by decide +kernel⟩
set_option maxRecDepth 100000 in
theorem gMo157 : gMok gM157 := ⟨Or.inl ⟨rfl, (gAt 939 rfl (by decide +kernel))⟩, (fun h => absurd h (by decide +kernel)), by decide +kernel, by decide +kernel⟩
set_option maxRecDepth 100000 in
theorem gMo158 : gMok gM158 := ⟨Or.inl ⟨rfl, (gAt 928 rfl (by decide +kernel))⟩, (fun h => absurd h (by decide +kernel)), by decide +kernel, by decide +kernel⟩
set_option maxRecDepth 100000 in
theorem gMo159 : gMok gM159 := ⟨Or.inr (gAt 923 rfl (by decide +kernel)), (fun h => absurd h (by decide +kernel)), by decide +kernel, by decide +kernel⟩
set_option maxRecDepth 100000 in
theorem gMo160 : gMok gM160 := ⟨Or.inl ⟨rfl, (gAt 1567 rfl (by decide +kernel))⟩, (fun h => absurd h (by decide +kernel)), by decide +kernel, by decide +kernel⟩
set_option maxRecDepth 100000 in
theorem gMo161 : gMok gM161 := ⟨Or.inl ⟨rfl, (gAt 1571 rfl (by decide +kernel))⟩, (fun h => absurd h (by decide +kernel)), by decide +kernel, by decide +kernel⟩
set_option maxRecDepth 100000 in
theorem gMo162 : gMok gM162 := ⟨Or.inl ⟨rfl, (gAt 1575 rfl (by decide +kernel))⟩, (fun h => absurd h (by decide +kernel)), by decide +kernel, by decide +kernel⟩
set_option maxRecDepth 100000 in
theorem gMo163 : gMok gM163 := ⟨Or.inl ⟨rfl, (gAt 1563 rfl (by decide +kernel))⟩, (fun h => absurd h (by decide +kernel)), by decide +kernel, by decide +kernel⟩
set_option maxRecDepth 100000 in
theorem gMo164 : gMok gM164 := ⟨Or.inl ⟨rfl, (gAt 961 rfl (by decide +kernel))⟩, (fun h => absurd h (by decide +kernel)), by decide +kernel, by decide +kernel⟩
set_option maxRecDepth 100000 in
theorem gMo165 : gMok gM165 := ⟨Or.inr (gAt 957 rfl (by decide +kernel)), (fun h => absurd h (by decide +kernel)), by decide +kernel, by decide +kernel⟩
set_option maxRecDepth 100000 in
theorem gMo166 : gMok gM166 := ⟨Or.inl ⟨rfl, (gAt 1579 rfl (by decide +kernel))⟩, (fun h => absurd h (by decide +kernel)), by decide +kernel, by decide +kernel⟩
set_option maxRecDepth 100000 in
theorem gMo167 : gMok gM167 := ⟨Or.inl ⟨rfl, (gAt 973 rfl (by decide +kernel))⟩, (fun h => absurd h (by decide +kernel)), by decide +kernel, by decide +kernel⟩
set_option maxRecDepth 100000 in
theorem gMo168 : gMok gM168 := ⟨Or.inl ⟨rfl, (gAt 969 rfl (by decide +kernel))⟩, (fun h => absurd h (by decide +kernel)), by decide +kernel, by decide +kernel⟩
set_option maxRecDepth 100000 in
theorem gMo169 : gMok gM169 := ⟨Or.inr (gAt 965 rfl (by decide +kernel)), (fun h => absurd h (by decide +kernel)), by decide +kernel, by decide +kernel⟩
set_option maxRecDepth 100000 in
theorem gMo170 : gMok gM170 := ⟨Or.inl ⟨rfl, (gAt 1587 rfl (by decide +kernel))⟩, (fun h => absurd h (by decide +kernel)), by decide +kernel, by decide +kernel⟩
set_option maxRecDepth 100000 in
theorem gMo171 : gMok gM171 := ⟨Or.inl ⟨rfl, (gAt 1583 rfl (by decide +kernel))⟩, (fun h => absurd h (by decide +kernel)), by decide +kernel, by decide +kernel⟩
set_option maxRecDepth 100000 in
theorem gMo172 : gMok gM172 := ⟨Or.inl ⟨rfl, (gAt 980 rfl (by decide +kernel))⟩, (fun h => absurd h (by decide +kernel)), by decide +kernel, by decide +kernel⟩
set_option maxRecDepth 100000 in
theorem gMo173 : gMok gM173 := ⟨Or.inr (gAt 976 rfl (by decide +kernel)), (fun h => absurd h (by decide +kernel)), by decide +kernel, by decide +kernel⟩
set_option maxRecDepth 100000 in
theorem gMo174 : gMok gM174 := ⟨Or.inl ⟨rfl, (gAt 1591 rfl (by decide +kernel))⟩, (fun h => absurd h (by decide +kernel)), by decide +kernel, by decide +kernel⟩
set_option maxRecDepth 100000 in
theorem gMo175 : gMok gM175 := ⟨Or.inl ⟨rfl, (gAt 991 rfl (by decide +kernel))⟩, (fun h => absurd h (by decide +kernel)), by decide +kernel, by decide +kernel⟩
set_option maxRecDepth 100000 in
theorem gMo176 : gMok gM176 := ⟨Or.inl ⟨rfl, (gAt 987 rfl (by decide +kernel))⟩, (fun h => absurd h (by decide +kernel)), by decide +kernel, by decide +kernel⟩
set_option maxRecDepth 100000 in
theorem gMo177 : gMok gM177 := ⟨Or.inr (gAt 983 rfl (by decide +kernel)), (fun h => absurd h (by decide +kernel)), by decide +kernel, by decide +kernel⟩
set_option maxRecDepth 100000 in
theorem gMo178 : gMok gM178 := ⟨Or.inl ⟨rfl, (gAt 1595 rfl (by decide +kernel))⟩, (fun h => absurd h (by decide +kernel)), by decide +kernel, by decide +kernel⟩
set_option maxRecDepth 100000 in
theorem gMo179 : gMok gM179 := ⟨Or.inl ⟨rfl, (gAt 1002 rfl (by decide +kernel))⟩, (fun h => absurd h (by decide +kernel)), by decide +kernel, by decide +kernel⟩
set_option maxRecDepth 100000 in
theorem gMo180 : gMok gM180 := ⟨Or.inl ⟨rfl, (gAt 998 rfl (by decide +kernel))⟩, (fun h => absurd h (by decide +kernel)), by decide +kernel, by decide +kernel⟩
set_option maxRecDepth 100000 in
theorem gMo181 : gMok gM181 := ⟨Or.inr (gAt 994 rfl (by decide +kernel)), (fun h => absurd h (by decide +kernel)), by decide +kernel, by decide +kernel⟩
set_option maxRecDepth 100000 in
theorem gMo182 : gMok gM182 := ⟨Or.inl ⟨rfl, (gAt 1599 rfl (by decide +kernel))⟩, (fun h => absurd h (by decide +kernel)), by decide +kernel, by decide +kernel⟩
set_option maxRecDepth 100000 in
theorem gMo183 : gMok gM183 := ⟨Or.inl ⟨rfl, (gAt 1009 rfl (by decide +kernel))⟩, (fun h => absurd h (by decide +kernel)), by decide +kernel, by decide +kernel⟩
set_option maxRecDepth 100000 in
theorem gMo184 : gMok gM184 := ⟨Or.inr (gAt 1005 rfl (by decide +kernel)), (fun h => absurd h (by decide +kernel)), by decide +kernel, by decide +kernel⟩
set_option maxRecDepth 100000 in
theorem gMo185 : gMok gM185 := ⟨Or.inl ⟨rfl, (gAt 1603 rfl (by decide +kernel))⟩, (fun h => absurd h (by decide +kernel)), by decide +kernel, by decide +kernel⟩
set_option maxRecDepth 100000 in
theorem gMo186 : gMok gM186 := ⟨Or.inl ⟨rfl, (gAt 1029 rfl (by decide +kernel))⟩, (fun h => absurd h (by decide +kernel)), by decide +kernel, by decide +kernel⟩
set_option maxRecDepth 100000 in
theorem gMo187 : gMok gM187 := ⟨Or.inl ⟨rfl, (gAt 1035 rfl (by decide +kernel))⟩, (fun h => absurd h (by decide +kernel)), by decide +kernel, by decide +kernel⟩
set_option maxRecDepth 100000 in
theorem gMo188 : gMok gM188 := ⟨Or.inl ⟨rfl, (gAt 1040 rfl (by decide +kernel))⟩, (fun h => absurd h (by decide +kernel)), by decide +kernel, by decide +kernel⟩
set_option maxRecDepth 100000 in
theorem gMo189 : gMok gM189 := ⟨Or.inl ⟨rfl, (gAt 1052 rfl (by decide +kernel))⟩, (fun h => absurd h (by decide +kernel)), by decide +kernel, by decide +kernel⟩
set_option maxRecDepth 100000 in
theorem gMo190 : gMok gM190 := ⟨Or.inl ⟨rfl, (gAt 1056 rfl (by decide +kernel))⟩, (fun h => absurd h (by decide +kernel)), by decide +kernel, by decide +kernel⟩
set_option maxRecDepth 100000 in
theorem gMo191 : gMok gM191 := ⟨Or.inl ⟨rfl, (gAt 1064 rfl (by decide +kernel))⟩, (fun h => absurd h (by decide +kernel)), by decide +kernel, by decide +kernel⟩
set_option maxRecDepth 100000 in
theorem gMo192 : gMok gM192 := ⟨Or.inl ⟨rfl, (gAt 1060 rfl (by decide +kernel))⟩, (fun h => absurd h (by decide +kernel)), by decide +kernel, by decide +kernel⟩
set_option maxRecDepth 100000 in
theorem gMo193 : gMok gM193 := ⟨Or.inl ⟨rfl, (gAt 1086 rfl (by decide +kernel))⟩, (fun h => absurd h (by decide +kernel)), by decide +kernel, by decide +kernel⟩
set_option maxRecDepth 100000 in
theorem gMo194 : gMok gM194 := ⟨Or.inl ⟨rfl, (gAt 1096 rfl (by decide +kernel))⟩, (fun h => absurd h (by decide +kernel)), by decide +kernel, by decide +kernel⟩
set_option maxRecDepth 100000 in
theorem gMo195 : gMok gM195 := ⟨Or.inl ⟨rfl, (gAt 1092 rfl (by decide +kernel))⟩, (fun h => absurd h (by decide +kernel)), by decide +kernel, by decide +kernel⟩
set_option maxRecDepth 100000 in
theorem gMo196 : gMok gM196 := ⟨Or.inl ⟨rfl, (gAt 1048 rfl (by decide +kernel))⟩, (fun h => absurd h (by decide +kernel)), by decide +kernel, by decide +kernel⟩
set_option maxRecDepth 100000 in
theorem gMo197 : gMok gM197 := ⟨Or.inl ⟨rfl, (gAt 1044 rfl (by decide +kernel))⟩, (fun h => absurd h (by decide +kernel)), by decide +kernel, by decide +kernel⟩
set_option maxRecDepth 100000 in
theorem gMo198 : gMok gM198 := ⟨Or.inl ⟨rfl, (gAt 1024 rfl (by decide +kernel))⟩, (fun h => absurd h (by decide +kernel)), by decide +kernel, by decide +kernel⟩
set_option maxRecDepth 100000 in
theorem gMo199 : gMok gM199 := ⟨Or.inl ⟨rfl, (gAt 1020 rfl (by decide +kernel))⟩, (fun h => absurd h (by decide +kernel)), by decide +kernel, by decide +kernel⟩
set_option maxRecDepth 100000 in
theorem gMo200 : gMok gM200 := ⟨Or.inr (gAt 1014 rfl (by decide +kernel)), (fun h => absurd h (by decide +kernel)), by decide +kernel, by decide +kernel⟩
set_option maxRecDepth 100000 in
theorem gMo201 : gMok gM201 := ⟨Or.inl ⟨rfl, (gAt 1611 rfl (by decide +kernel))⟩, (fun h => absurd h (by decide +kernel)), by decide +kernel, by decide +kernel⟩
set_option maxRecDepth 100000 in
theorem gMo202 : gMok gM202 := ⟨Or.inl ⟨rfl, (gAt 1619 rfl (by decide +kernel))⟩, (fun h => absurd h (by decide +kernel)), by decide +kernel, by decide +kernel⟩
set_option maxRecDepth 100000 in
theorem gMo203 : gMok gM203 := ⟨Or.inl ⟨rfl, (gAt 1615 rfl (by decide +kernel))⟩, (fun h => absurd h (by decide +kernel)), by decide +kernel, by decide +kernel⟩
set_option maxRecDepth 100000 in
theorem gMo204 : gMok gM204 := ⟨Or.inl ⟨rfl, (gAt 1627 rfl (by decide +kernel))⟩, (fun h => absurd h (by decide +kernel)), by decide +kernel, by decide +kernel⟩
set_option maxRecDepth 100000 in
theorem gMo205 : gMok gM205 := ⟨Or.inl ⟨rfl, (gAt 1631 rfl (by decide +kernel))⟩, (fun h => absurd h (by decide +kernel)), by decide +kernel, by decide +kernel⟩
set_option maxRecDepth 100000 in
theorem gMo206 : gMok gM206 := ⟨Or.inl ⟨rfl, (gAt 1639 rfl (by decide +kernel))⟩, (fun h => absurd h (by decide +kernel)), by decide +kernel, by decide +kernel⟩
set_option maxRecDepth 100000 in
theorem gMo207 : gMok gM207 := ⟨Or.inl ⟨rfl, (gAt 1635 rfl (by decide +kernel))⟩, (fun h => absurd h (by decide +kernel)), by decide +kernel, by decide +kernel⟩
set_option maxRecDepth 100000 in
theorem gMo208 : gMok gM208 := ⟨Or.inl ⟨rfl, (gAt 1647 rfl (by decide +kernel))⟩, (fun h => absurd h (by decide +kernel)), by decide +kernel, by decide +kernel⟩
set_option maxRecDepth 100000 in
theorem gMo209 : gMok gM209 := ⟨Or.inl ⟨rfl, (gAt 1643 rfl (by decide +kernel))⟩, (fun h => absurd h (by decide +kernel)), by decide +kernel, by decide +kernel⟩
set_option maxRecDepth 100000 in
theorem gMo210 : gMok gM210 := ⟨Or.inl ⟨rfl, (gAt 1623 rfl (by decide +kernel))⟩, (fun h => absurd h (by decide +kernel)), by decide +kernel, by decide +kernel⟩
set_option maxRecDepth 100000 in
theorem gMo211 : gMok gM211 := ⟨Or.inl ⟨rfl, (gAt 1607 rfl (by decide +kernel))⟩, (fun h => absurd h (by decide +kernel)), by decide +kernel, by decide +kernel⟩
set_option maxRecDepth 100000 in
theorem gMo212 : gMok gM212 := ⟨Or.inl ⟨rfl, (gAt 1119 rfl (by decide +kernel))⟩, (fun h => absurd h (by decide +kernel)), by decide +kernel, by decide +kernel⟩
set_option maxRecDepth 100000 in
theorem gMo213 : gMok gM213 := ⟨Or.inr (gAt 1115 rfl (by decide +kernel)), (fun h => absurd h (by decide +kernel)), by decide +kernel, by decide +kernel⟩
set_option maxRecDepth 100000 in
theorem gMo214 : gMok gM214 := ⟨Or.inl ⟨rfl, (gAt 1651 rfl (by decide +kernel))⟩, (fun h => absurd h (by decide +kernel)), by decide +kernel, by decide +kernel⟩
set_option maxRecDepth 100000 in
theorem gMo215 : gMok gM215 := ⟨Or.inl ⟨rfl, (gAt 1126 rfl (by decide +kernel))⟩, (fun h => absurd h (by decide +kernel)), by decide +kernel, by decide +kernel⟩
set_option maxRecDepth 100000 in
theorem gMo216 : gMok gM216 := ⟨Or.inr (gAt 1122 rfl (by decide +kernel)), (fun h => absurd h (by decide +kernel)), by decide +kernel, by decide +kernel⟩
set_option maxRecDepth 100000 in
theorem gMo217 : gMok gM217 := ⟨Or.inl ⟨rfl, (gAt 1655 rfl (by decide +kernel))⟩, (fun h => absurd h (by decide +kernel)), by decide +kernel, by decide +kernel⟩
theorem gMol : ¬ (Cond.static gM218.1 ∈ gTs ∨ Cond.instanceMethod gM218.1 ∈ gTs) := by decide +kernel
theorem gMt : ∀ j, Cond.static (gMr j).1 ∈ gTs ∨ Cond.instanceMethod (gMr j).1 ∈ gTs → gMok (gMr j)
  | 0, _ => gMo0
  | 1, _ => gMo1
  | 2, _ => gMo2
  | 3, _ => gMo3
  | 4, _ => gMo4
  | 5, _ => gMo5
  | 6, _ => gMo6
  | 7, _ => gMo7
  | 8, _ => gMo8
  | 9, _ => gMo9
  | 10, _ => gMo10
  | 11, _ => gMo11
  | 12, _ => gMo12
  | 13, _ => gMo13
  | 14, _ => gMo14
  | 15, _ => gMo15
  | 16, _ => gMo16
  | 17, _ => gMo17
  | 18, _ => gMo18
  | 19, _ => gMo19
  | 20, _ => gMo20
  | 21, _ => gMo21
  | 22, _ => gMo22
  | 23, _ => gMo23
  | 24, _ => gMo24
  | 25, _ => gMo25
  | 26, _ => gMo26
  | 27, _ => gMo27
  | 28, _ => gMo28
  | 29, _ => gMo29
  | 30, _ => gMo30
  | 31, _ => gMo31
  | 32, _ => gMo32
  | 33, _ => gMo33
  | 34, _ => gMo34
  | 35, _ => gMo35
  | 36, _ => gMo36
  | 37, _ => gMo37
  | 38, _ => gMo38
  | 39, _ => gMo39
  | 40, _ => gMo40
  | 41, _ => gMo41
  | 42, _ => gMo42
  | 43, _ => gMo43
  | 44, _ => gMo44
  | 45, _ => gMo45
  | 46, _ => gMo46
  | 47, _ => gMo47
  | 48, _ => gMo48
  | 49, _ => gMo49
  | 50, _ => gMo50
  | 51, _ => gMo51
  | 52, _ => gMo52
  | 53, _ => gMo53
  | 54, _ => gMo54
  | 55, _ => gMo55
  | 56, _ => gMo56
  | 57, _ => gMo57
  | 58, _ => gMo58
  | 59, _ => gMo59
  | 60, _ => gMo60
  | 61, _ => gMo61
  | 62, _ => gMo62
  | 63, _ => gMo63
  | 64, _ => gMo64
  | 65, _ => gMo65
  | 66, _ => gMo66
  | 67, _ => gMo67
  | 68, _ => gMo68
  | 69, _ => gMo69
  | 70, _ => gMo70
  | 71, _ => gMo71
  | 72, _ => gMo72
  | 73, _ => gMo73
  | 74, _ => gMo74
  | 75, _ => gMo75
  | 76, _ => gMo76
  | 77, _ => gMo77
  | 78, _ => gMo78
  | 79, _ => gMo79
  | 80, _ => gMo80
  | 81, _ => gMo81
  | 82, _ => gMo82
  | 83, _ => gMo83
  | 84, _ => gMo84
  | 85, _ => gMo85
  | 86, _ => gMo86
  | 87, _ => gMo87
  | 88, _ => gMo88
  | 89, _ => gMo89
  | 90, _ => gMo90
  | 91, _ => gMo91
  | 92, _ => gMo92
  | 93, _ => gMo93
  | 94, _ => gMo94
  | 95, _ => gMo95
  | 96, _ => gMo96
  | 97, _ => gMo97
  | 98, _ => gMo98
  | 99, _ => gMo99
  | 100, _ => gMo100
  | 101, _ => gMo101
  | 102, _ => gMo102
  | 103, _ => gMo103
  | 104, _ => gMo104
  | 105, _ => gMo105
  | 106, _ => gMo106
  | 107, _ => gMo107
  | 108, _ => gMo108
  | 109, _ => gMo109
  | 110, _ => gMo110
  | 111, _ => gMo111
  | 112, _ => gMo112
  | 113, _ => gMo113
  | 114, _ => gMo114
  | 115, _ => gMo115
  | 116, _ => gMo116
  | 117, _ => gMo117
  | 118, _ => gMo118
  | 119, _ => gMo119
  | 120, _ => gMo120
  | 121, _ => gMo121
  | 122, _ => gMo122
  | 123, _ => gMo123
  | 124, _ => gMo124
  | 125, _ => gMo125
  | 126, _ => gMo126
  | 127, _ => gMo127
  | 128, _ => gMo128
  | 129, _ => gMo129
  | 130, _ => gMo130
  | 131, _ => gMo131
  | 132, _ => gMo132
  | 133, _ => gMo133
  | 134, _ => gMo134
  | 135, _ => gMo135
  | 136, _ => gMo136
  | 137, _ => gMo137
  | 138, _ => gMo138
  | 139, _ => gMo139
  | 140, _ => gMo140
  | 141, _ => gMo141
  | 142, _ => gMo142
  | 143, _ => gMo143
  | 144, _ => gMo144
  | 145, _ => gMo145
  | 146, _ => gMo146
  | 147, _ => gMo147
  | 148, _ => gMo148
  | 149, _ => gMo149
  | 150, _ => gMo150
  | 151, _ => gMo151
  | 152, _ => gMo152
  | 153, _ => gMo153
  | 154, _ => gMo154
  | 155, _ => gMo155
  | 156, _ => gMo156
  | 157, _ => gMo157
  | 158, _ => gMo158
  | 159, _ => gMo159
  | 160, _ => gMo160
  | 161, _ => gMo161
  | 162, _ => gMo162
  | 163, _ => gMo163
  | 164, _ => gMo164
  | 165, _ => gMo165
  | 166, _ => gMo166
  | 167, _ => gMo167
  | 168, _ => gMo168
  | 169, _ => gMo169
  | 170, _ => gMo170
  | 171, _ => gMo171
  | 172, _ => gMo172
  | 173, _ => gMo173
  | 174, _ => gMo174
  | 175, _ => gMo175
  | 176, _ => gMo176
  | 177, _ => gMo177
  | 178, _ => gMo178
  | 179, _ => gMo179
  | 180, _ => gMo180
  | 181, _ => gMo181
  | 182, _ => gMo182
  | 183, _ => gMo183
  | 184, _ => gMo184
  | 185, _ => gMo185
  | 186, _ => gMo186
  | 187, _ => gMo187
  | 188, _ => gMo188
  | 189, _ => gMo189
  | 190, _ => gMo190
  | 191, _ => gMo191
  | 192, _ => gMo192
  | 193, _ => gMo193
  | 194, _ => gMo194
  | 195, _ => gMo195
  | 196, _ => gMo196
  | 197, _ => gMo197
  | 198, _ => gMo198
  | 199, _ => gMo199
  | 200, _ => gMo200
  | 201, _ => gMo201
  | 202, _ => gMo202
  | 203, _ => gMo203
  | 204, _ => gMo204
  | 205, _ => gMo205
  | 206, _ => gMo206
  | 207, _ => gMo207
  | 208, _ => gMo208
  | 209, _ => gMo209
  | 210, _ => gMo210
  | 211, _ => gMo211
  | 212, _ => gMo212
  | 213, _ => gMo213
  | 214, _ => gMo214
  | 215, _ => gMo215
  | 216, _ => gMo216
  | 217, _ => gMo217
  | 218, h => absurd h gMol
  | n + 219, _ => by
    have e : gMr (n + 219) = gM0 := by show gM.getD (n + 219) gM0 = gM0; rw [List.getD_eq_getElem?_getD, List.getElem?_eq_none (by rw [gM_len]; omega)]; rfl
    rw [e]
    exact gMo0
theorem gXMt : XMt gTs gY gC gMx gRet gH := ⟨gXgw, gMt⟩
