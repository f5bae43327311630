-- CONSTRUCTORS: where the references point
set_option maxRecDepth 20000 in
theorem k_r0 : ∀ k, k_end.2.2 0 k = RF 92 0 k
  | 0 => rfl
  | 1 => rfl
  | 2 => rfl
  | 3 => rfl
  | 4 => rfl
  | 5 => rfl
  | 6 => rfl
  | 7 => rfl
  | 8 => rfl
  | 9 => rfl
  | 10 => rfl
  | 11 => rfl
  | 12 => rfl
  | 13 => rfl
  | _ + 14 => rfl
set_option maxRecDepth 20000 in
theorem k_r1 : ∀ k, k_end.2.2 1 k = RF 92 1 k
  | 0 => rfl
  | 1 => rfl
  | _ + 2 => rfl
set_option maxRecDepth 20000 in
theorem k_r2 (k : Nat) : k_end.2.2 2 k = RF 92 2 k := rfl
set_option maxRecDepth 20000 in
theorem k_r3 (k : Nat) : k_end.2.2 3 k = RF 92 3 k := rfl
set_option maxRecDepth 20000 in
theorem k_r4 (k : Nat) : k_end.2.2 4 k = RF 92 4 k := rfl
set_option maxRecDepth 20000 in
theorem k_r5 (k : Nat) : k_end.2.2 5 k = RF 92 5 k := rfl
set_option maxRecDepth 20000 in
theorem k_r6 (k : Nat) : k_end.2.2 6 k = RF 92 6 k := rfl
set_option maxRecDepth 20000 in
theorem k_r7 (k : Nat) : k_end.2.2 7 k = RF 92 7 k := rfl
set_option maxRecDepth 20000 in
theorem k_r8 (k : Nat) : k_end.2.2 8 k = RF 92 8 k := rfl
set_option maxRecDepth 20000 in
theorem k_r9 (k : Nat) : k_end.2.2 9 k = RF 92 9 k := rfl
set_option maxRecDepth 20000 in
theorem k_r10 (k : Nat) : k_end.2.2 10 k = RF 92 10 k := rfl
set_option maxRecDepth 20000 in
theorem k_r11 (k : Nat) : k_end.2.2 11 k = RF 92 11 k := rfl
set_option maxRecDepth 20000 in
theorem k_r12 (k : Nat) : k_end.2.2 12 k = RF 92 12 k := rfl
set_option maxRecDepth 20000 in
theorem k_r13 (k : Nat) : k_end.2.2 13 k = RF 92 13 k := rfl
set_option maxRecDepth 20000 in
theorem k_r14 (k : Nat) : k_end.2.2 14 k = RF 92 14 k := rfl
set_option maxRecDepth 20000 in
theorem k_r15 (k : Nat) : k_end.2.2 15 k = RF 92 15 k := rfl
set_option maxRecDepth 20000 in
theorem k_r16 (k : Nat) : k_end.2.2 16 k = RF 92 16 k := rfl
set_option maxRecDepth 20000 in
theorem k_r17 (k : Nat) : k_end.2.2 17 k = RF 92 17 k := rfl
set_option maxRecDepth 20000 in
theorem k_r18 (k : Nat) : k_end.2.2 18 k = RF 92 18 k := rfl
set_option maxRecDepth 20000 in
theorem k_r19 (k : Nat) : k_end.2.2 19 k = RF 92 19 k := rfl
set_option maxRecDepth 20000 in
theorem k_r20 (k : Nat) : k_end.2.2 20 k = RF 92 20 k := rfl
set_option maxRecDepth 20000 in
theorem k_r21 (k : Nat) : k_end.2.2 21 k = RF 92 21 k := rfl
set_option maxRecDepth 20000 in
theorem k_r22 (k : Nat) : k_end.2.2 22 k = RF 92 22 k := rfl
set_option maxRecDepth 20000 in
theorem k_r23 (k : Nat) : k_end.2.2 23 k = RF 92 23 k := rfl
set_option maxRecDepth 20000 in
theorem k_r24 (k : Nat) : k_end.2.2 24 k = RF 92 24 k := rfl
set_option maxRecDepth 20000 in
theorem k_r25 (k : Nat) : k_end.2.2 25 k = RF 92 25 k := rfl
set_option maxRecDepth 20000 in
theorem k_r26 (k : Nat) : k_end.2.2 26 k = RF 92 26 k := rfl
set_option maxRecDepth 20000 in
theorem k_r27 (k : Nat) : k_end.2.2 27 k = RF 92 27 k := rfl
set_option maxRecDepth 20000 in
theorem k_r28 (k : Nat) : k_end.2.2 28 k = RF 92 28 k := rfl
set_option maxRecDepth 20000 in
theorem k_r29 (k : Nat) : k_end.2.2 29 k = RF 92 29 k := rfl
set_option maxRecDepth 20000 in
theorem k_r30 (k : Nat) : k_end.2.2 30 k = RF 92 30 k := rfl
set_option maxRecDepth 20000 in
theorem k_r31 (k : Nat) : k_end.2.2 31 k = RF 92 31 k := rfl
set_option maxRecDepth 20000 in
theorem k_r32 (k : Nat) : k_end.2.2 32 k = RF 92 32 k := rfl
set_option maxRecDepth 20000 in
theorem k_r33 : ∀ k, k_end.2.2 33 k = RF 92 33 k
  | 0 => rfl
  | 1 => rfl
  | 2 => rfl
  | 3 => rfl
  | _ + 4 => rfl
set_option maxRecDepth 20000 in
theorem k_r34 (k : Nat) : k_end.2.2 34 k = RF 92 34 k := rfl
set_option maxRecDepth 20000 in
theorem k_r35 (k : Nat) : k_end.2.2 35 k = RF 92 35 k := rfl
set_option maxRecDepth 20000 in
theorem k_r36 (k : Nat) : k_end.2.2 36 k = RF 92 36 k := rfl
set_option maxRecDepth 20000 in
theorem k_r37 : ∀ k, k_end.2.2 37 k = RF 92 37 k
  | 0 => rfl
  | 1 => rfl
  | 2 => rfl
  | 3 => rfl
  | 4 => rfl
  | 5 => rfl
  | 6 => rfl
  | 7 => rfl
  | _ + 8 => rfl
set_option maxRecDepth 20000 in
theorem k_r38 (k : Nat) : k_end.2.2 38 k = RF 92 38 k := rfl
set_option maxRecDepth 20000 in
theorem k_r39 (k : Nat) : k_end.2.2 39 k = RF 92 39 k := rfl
set_option maxRecDepth 20000 in
theorem k_r40 (k : Nat) : k_end.2.2 40 k = RF 92 40 k := rfl
set_option maxRecDepth 20000 in
theorem k_r41 (k : Nat) : k_end.2.2 41 k = RF 92 41 k := rfl
set_option maxRecDepth 20000 in
theorem k_r42 (k : Nat) : k_end.2.2 42 k = RF 92 42 k := rfl
set_option maxRecDepth 20000 in
theorem k_r43 : ∀ k, k_end.2.2 43 k = RF 92 43 k
  | 0 => rfl
  | 1 => rfl
  | _ + 2 => rfl
set_option maxRecDepth 20000 in
theorem k_r44 (k : Nat) : k_end.2.2 44 k = RF 92 44 k := rfl
set_option maxRecDepth 20000 in
theorem k_r45 (k : Nat) : k_end.2.2 45 k = RF 92 45 k := rfl
set_option maxRecDepth 20000 in
theorem k_r46 (k : Nat) : k_end.2.2 46 k = RF 92 46 k := rfl
set_option maxRecDepth 20000 in
theorem k_r47 (k : Nat) : k_end.2.2 47 k = RF 92 47 k := rfl
set_option maxRecDepth 20000 in
theorem k_r48 (k : Nat) : k_end.2.2 48 k = RF 92 48 k := rfl
set_option maxRecDepth 20000 in
theorem k_r49 (k : Nat) : k_end.2.2 49 k = RF 92 49 k := rfl
set_option maxRecDepth 20000 in
theorem k_r50 (k : Nat) : k_end.2.2 50 k = RF 92 50 k := rfl
set_option maxRecDepth 20000 in
theorem k_r51 (k : Nat) : k_end.2.2 51 k = RF 92 51 k := rfl
set_option maxRecDepth 20000 in
theorem k_r52 (k : Nat) : k_end.2.2 52 k = RF 92 52 k := rfl
set_option maxRecDepth 20000 in
theorem k_r53 (k : Nat) : k_end.2.2 53 k = RF 92 53 k := rfl
set_option maxRecDepth 20000 in
theorem k_r54 (k : Nat) : k_end.2.2 54 k = RF 92 54 k := rfl
set_option maxRecDepth 20000 in
theorem k_r55 (k : Nat) : k_end.2.2 55 k = RF 92 55 k := rfl
set_option maxRecDepth 20000 in
theorem k_r56 (k : Nat) : k_end.2.2 56 k = RF 92 56 k := rfl
set_option maxRecDepth 20000 in
theorem k_r57 (k : Nat) : k_end.2.2 57 k = RF 92 57 k := rfl
set_option maxRecDepth 20000 in
theorem k_r58 (k : Nat) : k_end.2.2 58 k = RF 92 58 k := rfl
set_option maxRecDepth 20000 in
theorem k_r59 (k : Nat) : k_end.2.2 59 k = RF 92 59 k := rfl
set_option maxRecDepth 20000 in
theorem k_r60 (k : Nat) : k_end.2.2 60 k = RF 92 60 k := rfl
set_option maxRecDepth 20000 in
theorem k_r61 (k : Nat) : k_end.2.2 61 k = RF 92 61 k := rfl
set_option maxRecDepth 20000 in
theorem k_r62 (k : Nat) : k_end.2.2 62 k = RF 92 62 k := rfl
set_option maxRecDepth 20000 in
theorem k_r63 (k : Nat) : k_end.2.2 63 k = RF 92 63 k := rfl
set_option maxRecDepth 20000 in
theorem k_r64 (k : Nat) : k_end.2.2 64 k = RF 92 64 k := rfl
set_option maxRecDepth 20000 in
theorem k_r65 : ∀ k, k_end.2.2 65 k = RF 92 65 k
  | 0 => rfl
  | 1 => rfl
  | 2 => rfl
  | 3 => rfl
  | _ + 4 => rfl
set_option maxRecDepth 20000 in
theorem k_r66 (k : Nat) : k_end.2.2 66 k = RF 92 66 k := rfl
set_option maxRecDepth 20000 in
theorem k_r67 (k : Nat) : k_end.2.2 67 k = RF 92 67 k := rfl
set_option maxRecDepth 20000 in
theorem k_r68 (k : Nat) : k_end.2.2 68 k = RF 92 68 k := rfl
set_option maxRecDepth 20000 in
theorem k_r69 (k : Nat) : k_end.2.2 69 k = RF 92 69 k := rfl
set_option maxRecDepth 20000 in
theorem k_r70 (k : Nat) : k_end.2.2 70 k = RF 92 70 k := rfl
set_option maxRecDepth 20000 in
theorem k_r71 (k : Nat) : k_end.2.2 71 k = RF 92 71 k := rfl
set_option maxRecDepth 20000 in
theorem k_r72 (k : Nat) : k_end.2.2 72 k = RF 92 72 k := rfl
set_option maxRecDepth 20000 in
theorem k_r73 (k : Nat) : k_end.2.2 73 k = RF 92 73 k := rfl
set_option maxRecDepth 20000 in
theorem k_r74 (k : Nat) : k_end.2.2 74 k = RF 92 74 k := rfl
set_option maxRecDepth 20000 in
theorem k_r75 (k : Nat) : k_end.2.2 75 k = RF 92 75 k := rfl
set_option maxRecDepth 20000 in
theorem k_r76 : ∀ k, k_end.2.2 76 k = RF 92 76 k
  | 0 => rfl
  | 1 => rfl
  | 2 => rfl
  | 3 => rfl
  | 4 => rfl
  | 5 => rfl
  | 6 => rfl
  | 7 => rfl
  | 8 => rfl
  | _ + 9 => rfl
set_option maxRecDepth 20000 in
theorem k_r77 (k : Nat) : k_end.2.2 77 k = RF 92 77 k := rfl
set_option maxRecDepth 20000 in
theorem k_r78 (k : Nat) : k_end.2.2 78 k = RF 92 78 k := rfl
set_option maxRecDepth 20000 in
theorem k_r79 : ∀ k, k_end.2.2 79 k = RF 92 79 k
  | 0 => rfl
  | 1 => rfl
  | 2 => rfl
  | 3 => rfl
  | 4 => rfl
  | 5 => rfl
  | 6 => rfl
  | 7 => rfl
  | _ + 8 => rfl
set_option maxRecDepth 20000 in
theorem k_r80 (k : Nat) : k_end.2.2 80 k = RF 92 80 k := rfl
set_option maxRecDepth 20000 in
theorem k_r81 (k : Nat) : k_end.2.2 81 k = RF 92 81 k := rfl
set_option maxRecDepth 20000 in
theorem k_r82 (k : Nat) : k_end.2.2 82 k = RF 92 82 k := rfl
set_option maxRecDepth 20000 in
theorem k_r83 (k : Nat) : k_end.2.2 83 k = RF 92 83 k := rfl
set_option maxRecDepth 20000 in
theorem k_r84 (k : Nat) : k_end.2.2 84 k = RF 92 84 k := rfl
set_option maxRecDepth 20000 in
theorem k_r85 (k : Nat) : k_end.2.2 85 k = RF 92 85 k := rfl
set_option maxRecDepth 20000 in
theorem k_r86 (k : Nat) : k_end.2.2 86 k = RF 92 86 k := rfl
set_option maxRecDepth 20000 in
theorem k_r87 (k : Nat) : k_end.2.2 87 k = RF 92 87 k := rfl
set_option maxRecDepth 20000 in
theorem k_r88 (k : Nat) : k_end.2.2 88 k = RF 92 88 k := rfl
set_option maxRecDepth 20000 in
theorem k_r89 (k : Nat) : k_end.2.2 89 k = RF 92 89 k := rfl
set_option maxRecDepth 20000 in
theorem k_r90 (k : Nat) : k_end.2.2 90 k = RF 92 90 k := rfl
set_option maxRecDepth 20000 in
theorem k_r91 : ∀ k, k_end.2.2 91 k = RF 92 91 k
  | 0 => rfl
  | 1 => rfl
  | 2 => rfl
  | 3 => rfl
  | 4 => rfl
  | 5 => rfl
  | 6 => rfl
  | 7 => rfl
  | 8 => rfl
  | 9 => rfl
  | 10 => rfl
  | 11 => rfl
  | 12 => rfl
  | 13 => rfl
  | 14 => rfl
  | 15 => rfl
  | _ + 16 => rfl
set_option maxRecDepth 20000 in
theorem k_r92 (k : Nat) : k_end.2.2 92 k = RF 92 92 k := rfl
set_option maxRecDepth 20000 in
theorem k_r93 (k : Nat) : k_end.2.2 93 k = RF 92 93 k := rfl
set_option maxRecDepth 20000 in
theorem k_r94 (k : Nat) : k_end.2.2 94 k = RF 92 94 k := rfl
set_option maxRecDepth 20000 in
theorem k_r95 (k : Nat) : k_end.2.2 95 k = RF 92 95 k := rfl
set_option maxRecDepth 20000 in
theorem k_r96 (k : Nat) : k_end.2.2 96 k = RF 92 96 k := rfl
set_option maxRecDepth 20000 in
theorem k_r97 (k : Nat) : k_end.2.2 97 k = RF 92 97 k := rfl
set_option maxRecDepth 20000 in
theorem k_r98 (k : Nat) : k_end.2.2 98 k = RF 92 98 k := rfl
set_option maxRecDepth 20000 in
theorem k_r99 (k : Nat) : k_end.2.2 99 k = RF 92 99 k := rfl
set_option maxRecDepth 20000 in
theorem k_r100 (k : Nat) : k_end.2.2 100 k = RF 92 100 k := rfl
set_option maxRecDepth 20000 in
theorem k_r101 (k : Nat) : k_end.2.2 101 k = RF 92 101 k := rfl
set_option maxRecDepth 20000 in
theorem k_r102 (k : Nat) : k_end.2.2 102 k = RF 92 102 k := rfl
set_option maxRecDepth 20000 in
theorem k_r103 (k : Nat) : k_end.2.2 103 k = RF 92 103 k := rfl
set_option maxRecDepth 20000 in
theorem k_r104 (k : Nat) : k_end.2.2 104 k = RF 92 104 k := rfl
set_option maxRecDepth 20000 in
theorem k_r105 (k : Nat) : k_end.2.2 105 k = RF 92 105 k := rfl
set_option maxRecDepth 20000 in
theorem k_r106 : ∀ k, k_end.2.2 106 k = RF 92 106 k
  | 0 => rfl
  | 1 => rfl
  | 2 => rfl
  | 3 => rfl
  | 4 => rfl
  | 5 => rfl
  | 6 => rfl
  | _ + 7 => rfl
set_option maxRecDepth 20000 in
theorem k_r107 (k : Nat) : k_end.2.2 107 k = RF 92 107 k := rfl
set_option maxRecDepth 20000 in
theorem k_r108 (k : Nat) : k_end.2.2 108 k = RF 92 108 k := rfl
set_option maxRecDepth 20000 in
theorem k_r109 (k : Nat) : k_end.2.2 109 k = RF 92 109 k := rfl
set_option maxRecDepth 20000 in
theorem k_r110 : ∀ k, k_end.2.2 110 k = RF 92 110 k
  | 0 => rfl
  | 1 => rfl
  | 2 => rfl
  | 3 => rfl
  | 4 => rfl
  | 5 => rfl
  | 6 => rfl
  | 7 => rfl
  | 8 => rfl
  | 9 => rfl
  | _ + 10 => rfl
set_option maxRecDepth 20000 in
theorem k_r111 (k : Nat) : k_end.2.2 111 k = RF 92 111 k := rfl
set_option maxRecDepth 20000 in
theorem k_r112 (k : Nat) : k_end.2.2 112 k = RF 92 112 k := rfl
set_option maxRecDepth 20000 in
theorem k_r113 (k : Nat) : k_end.2.2 113 k = RF 92 113 k := rfl
set_option maxRecDepth 20000 in
theorem k_r114 (k : Nat) : k_end.2.2 114 k = RF 92 114 k := rfl
set_option maxRecDepth 20000 in
theorem k_r115 (k : Nat) : k_end.2.2 115 k = RF 92 115 k := rfl
set_option maxRecDepth 20000 in
theorem k_r116 (k : Nat) : k_end.2.2 116 k = RF 92 116 k := rfl
set_option maxRecDepth 20000 in
theorem k_r117 : ∀ k, k_end.2.2 117 k = RF 92 117 k
  | 0 => rfl
  | 1 => rfl
  | 2 => rfl
  | _ + 3 => rfl
set_option maxRecDepth 20000 in
theorem k_r118 (k : Nat) : k_end.2.2 118 k = RF 92 118 k := rfl
set_option maxRecDepth 20000 in
theorem k_r119 (k : Nat) : k_end.2.2 119 k = RF 92 119 k := rfl
set_option maxRecDepth 20000 in
theorem k_r120 (k : Nat) : k_end.2.2 120 k = RF 92 120 k := rfl
set_option maxRecDepth 20000 in
theorem k_r121 (k : Nat) : k_end.2.2 121 k = RF 92 121 k := rfl
set_option maxRecDepth 20000 in
theorem k_r122 (k : Nat) : k_end.2.2 122 k = RF 92 122 k := rfl
set_option maxRecDepth 20000 in
theorem k_r123 (k : Nat) : k_end.2.2 123 k = RF 92 123 k := rfl
set_option maxRecDepth 20000 in
theorem k_r124 (k : Nat) : k_end.2.2 124 k = RF 92 124 k := rfl
set_option maxRecDepth 20000 in
theorem k_r125 (k : Nat) : k_end.2.2 125 k = RF 92 125 k := rfl
set_option maxRecDepth 20000 in
theorem k_r126 (k : Nat) : k_end.2.2 126 k = RF 92 126 k := rfl
set_option maxRecDepth 20000 in
theorem k_r127 : ∀ k, k_end.2.2 127 k = RF 92 127 k
  | 0 => rfl
  | 1 => rfl
  | 2 => rfl
  | 3 => rfl
  | 4 => rfl
  | 5 => rfl
  | 6 => rfl
  | 7 => rfl
  | 8 => rfl
  | 9 => rfl
  | 10 => rfl
  | 11 => rfl
  | 12 => rfl
  | 13 => rfl
  | 14 => rfl
  | 15 => rfl
  | 16 => rfl
  | 17 => rfl
  | 18 => rfl
  | 19 => rfl
  | 20 => rfl
  | 21 => rfl
  | 22 => rfl
  | 23 => rfl
  | 24 => rfl
  | 25 => rfl
  | 26 => rfl
  | 27 => rfl
  | 28 => rfl
  | 29 => rfl
  | 30 => rfl
  | 31 => rfl
  | 32 => rfl
  | 33 => rfl
  | 34 => rfl
  | 35 => rfl
  | 36 => rfl
  | 37 => rfl
  | 38 => rfl
  | 39 => rfl
  | 40 => rfl
  | 41 => rfl
  | 42 => rfl
  | 43 => rfl
  | 44 => rfl
  | 45 => rfl
  | 46 => rfl
  | 47 => rfl
  | 48 => rfl
  | 49 => rfl
  | 50 => rfl
  | 51 => rfl
  | 52 => rfl
  | 53 => rfl
  | 54 => rfl
  | 55 => rfl
  | 56 => rfl
  | 57 => rfl
  | _ + 58 => rfl
set_option maxRecDepth 20000 in
theorem k_r128 (k : Nat) : k_end.2.2 128 k = RF 92 128 k := rfl
set_option maxRecDepth 20000 in
theorem k_r129 (k : Nat) : k_end.2.2 129 k = RF 92 129 k := rfl
set_option maxRecDepth 20000 in
theorem k_r130 (k : Nat) : k_end.2.2 130 k = RF 92 130 k := rfl
set_option maxRecDepth 20000 in
theorem k_r131 (k : Nat) : k_end.2.2 131 k = RF 92 131 k := rfl
set_option maxRecDepth 20000 in
theorem k_r132 (k : Nat) : k_end.2.2 132 k = RF 92 132 k := rfl
set_option maxRecDepth 20000 in
theorem k_r133 (k : Nat) : k_end.2.2 133 k = RF 92 133 k := rfl
set_option maxRecDepth 20000 in
theorem k_r134 (k : Nat) : k_end.2.2 134 k = RF 92 134 k := rfl
set_option maxRecDepth 20000 in
theorem k_r135 (k : Nat) : k_end.2.2 135 k = RF 92 135 k := rfl
set_option maxRecDepth 20000 in
theorem k_r136 (k : Nat) : k_end.2.2 136 k = RF 92 136 k := rfl
set_option maxRecDepth 20000 in
theorem k_r137 (k : Nat) : k_end.2.2 137 k = RF 92 137 k := rfl
set_option maxRecDepth 20000 in
theorem k_r138 (k : Nat) : k_end.2.2 138 k = RF 92 138 k := rfl
set_option maxRecDepth 20000 in
theorem k_r139 (k : Nat) : k_end.2.2 139 k = RF 92 139 k := rfl
set_option maxRecDepth 20000 in
theorem k_r140 (k : Nat) : k_end.2.2 140 k = RF 92 140 k := rfl
set_option maxRecDepth 20000 in
theorem k_r141 (k : Nat) : k_end.2.2 141 k = RF 92 141 k := rfl
set_option maxRecDepth 20000 in
theorem k_r142 (k : Nat) : k_end.2.2 142 k = RF 92 142 k := rfl
set_option maxRecDepth 20000 in
theorem k_r143 (k : Nat) : k_end.2.2 143 k = RF 92 143 k := rfl
set_option maxRecDepth 20000 in
theorem k_r144 (k : Nat) : k_end.2.2 144 k = RF 92 144 k := rfl
set_option maxRecDepth 20000 in
theorem k_r145 (k : Nat) : k_end.2.2 145 k = RF 92 145 k := rfl
set_option maxRecDepth 20000 in
theorem k_r146 (k : Nat) : k_end.2.2 146 k = RF 92 146 k := rfl
set_option maxRecDepth 20000 in
theorem k_r147 (k : Nat) : k_end.2.2 147 k = RF 92 147 k := rfl
set_option maxRecDepth 20000 in
theorem k_r148 (k : Nat) : k_end.2.2 148 k = RF 92 148 k := rfl
set_option maxRecDepth 20000 in
theorem k_r149 (k : Nat) : k_end.2.2 149 k = RF 92 149 k := rfl
set_option maxRecDepth 20000 in
theorem k_r150 (k : Nat) : k_end.2.2 150 k = RF 92 150 k := rfl
set_option maxRecDepth 20000 in
theorem k_r151 (k : Nat) : k_end.2.2 151 k = RF 92 151 k := rfl
set_option maxRecDepth 20000 in
theorem k_r152 (k : Nat) : k_end.2.2 152 k = RF 92 152 k := rfl
set_option maxRecDepth 20000 in
theorem k_r153 (k : Nat) : k_end.2.2 153 k = RF 92 153 k := rfl
set_option maxRecDepth 20000 in
theorem k_r154 (k : Nat) : k_end.2.2 154 k = RF 92 154 k := rfl
set_option maxRecDepth 20000 in
theorem k_r155 (k : Nat) : k_end.2.2 155 k = RF 92 155 k := rfl
set_option maxRecDepth 20000 in
theorem k_r156 (k : Nat) : k_end.2.2 156 k = RF 92 156 k := rfl
set_option maxRecDepth 20000 in
theorem k_r157 (k : Nat) : k_end.2.2 157 k = RF 92 157 k := rfl
set_option maxRecDepth 20000 in
theorem k_r158 (k : Nat) : k_end.2.2 158 k = RF 92 158 k := rfl
set_option maxRecDepth 20000 in
theorem k_r159 (k : Nat) : k_end.2.2 159 k = RF 92 159 k := rfl
set_option maxRecDepth 20000 in
theorem k_r160 (k : Nat) : k_end.2.2 160 k = RF 92 160 k := rfl
set_option maxRecDepth 20000 in
theorem k_rf : k_end.2.2 = RF 92 := by
  funext a k
  match a with
  | 0 => exact k_r0 k
  | 1 => exact k_r1 k
  | 2 => exact k_r2 k
  | 3 => exact k_r3 k
  | 4 => exact k_r4 k
  | 5 => exact k_r5 k
  | 6 => exact k_r6 k
  | 7 => exact k_r7 k
  | 8 => exact k_r8 k
  | 9 => exact k_r9 k
  | 10 => exact k_r10 k
  | 11 => exact k_r11 k
  | 12 => exact k_r12 k
  | 13 => exact k_r13 k
  | 14 => exact k_r14 k
  | 15 => exact k_r15 k
  | 16 => exact k_r16 k
  | 17 => exact k_r17 k
  | 18 => exact k_r18 k
  | 19 => exact k_r19 k
  | 20 => exact k_r20 k
  | 21 => exact k_r21 k
  | 22 => exact k_r22 k
  | 23 => exact k_r23 k
  | 24 => exact k_r24 k
  | 25 => exact k_r25 k
  | 26 => exact k_r26 k
  | 27 => exact k_r27 k
  | 28 => exact k_r28 k
  | 29 => exact k_r29 k
  | 30 => exact k_r30 k
  | 31 => exact k_r31 k
  | 32 => exact k_r32 k
  | 33 => exact k_r33 k
  | 34 => exact k_r34 k
  | 35 => exact k_r35 k
  | 36 => exact k_r36 k
  | 37 => exact k_r37 k
  | 38 => exact k_r38 k
  | 39 => exact k_r39 k
  | 40 => exact k_r40 k
  | 41 => exact k_r41 k
  | 42 => exact k_r42 k
  | 43 => exact k_r43 k
  | 44 => exact k_r44 k
  | 45 => exact k_r45 k
  | 46 => exact k_r46 k
  | 47 => exact k_r47 k
  | 48 => exact k_r48 k
  | 49 => exact k_r49 k
  | 50 => exact k_r50 k
  | 51 => exact k_r51 k
  | 52 => exact k_r52 k
  | 53 => exact k_r53 k
  | 54 => exact k_r54 k
  | 55 => exact k_r55 k
  | 56 => exact k_r56 k
  | 57 => exact k_r57 k
  | 58 => exact k_r58 k
  | 59 => exact k_r59 k
  | 60 => exact k_r60 k
  | 61 => exact k_r61 k
  | 62 => exact k_r62 k
  | 63 => exact k_r63 k
  | 64 => exact k_r64 k
  | 65 => exact k_r65 k
  | 66 => exact k_r66 k
  | 67 => exact k_r67 k
  | 68 => exact k_r68 k
  | 69 => exact k_r69 k
  | 70 => exact k_r70 k
  | 71 => exact k_r71 k
  | 72 => exact k_r72 k
  | 73 => exact k_r73 k
  | 74 => exact k_r74 k
  | 75 => exact k_r75 k
  | 76 => exact k_r76 k
  | 77 => exact k_r77 k
  | 78 => exact k_r78 k
  | 79 => exact k_r79 k
  | 80 => exact k_r80 k
  | 81 => exact k_r81 k
  | 82 => exact k_r82 k
  | 83 => exact k_r83 k
  | 84 => exact k_r84 k
  | 85 => exact k_r85 k
  | 86 => exact k_r86 k
  | 87 => exact k_r87 k
  | 88 => exact k_r88 k
  | 89 => exact k_r89 k
  | 90 => exact k_r90 k
  | 91 => exact k_r91 k
  | 92 => exact k_r92 k
  | 93 => exact k_r93 k
  | 94 => exact k_r94 k
  | 95 => exact k_r95 k
  | 96 => exact k_r96 k
  | 97 => exact k_r97 k
  | 98 => exact k_r98 k
  | 99 => exact k_r99 k
  | 100 => exact k_r100 k
  | 101 => exact k_r101 k
  | 102 => exact k_r102 k
  | 103 => exact k_r103 k
  | 104 => exact k_r104 k
  | 105 => exact k_r105 k
  | 106 => exact k_r106 k
  | 107 => exact k_r107 k
  | 108 => exact k_r108 k
  | 109 => exact k_r109 k
  | 110 => exact k_r110 k
  | 111 => exact k_r111 k
  | 112 => exact k_r112 k
  | 113 => exact k_r113 k
  | 114 => exact k_r114 k
  | 115 => exact k_r115 k
  | 116 => exact k_r116 k
  | 117 => exact k_r117 k
  | 118 => exact k_r118 k
  | 119 => exact k_r119 k
  | 120 => exact k_r120 k
  | 121 => exact k_r121 k
  | 122 => exact k_r122 k
  | 123 => exact k_r123 k
  | 124 => exact k_r124 k
  | 125 => exact k_r125 k
  | 126 => exact k_r126 k
  | 127 => exact k_r127 k
  | 128 => exact k_r128 k
  | 129 => exact k_r129 k
  | 130 => exact k_r130 k
  | 131 => exact k_r131 k
  | 132 => exact k_r132 k
  | 133 => exact k_r133 k
  | 134 => exact k_r134 k
  | 135 => exact k_r135 k
  | 136 => exact k_r136 k
  | 137 => exact k_r137 k
  | 138 => exact k_r138 k
  | 139 => exact k_r139 k
  | 140 => exact k_r140 k
  | 141 => exact k_r141 k
  | 142 => exact k_r142 k
  | 143 => exact k_r143 k
  | 144 => exact k_r144 k
  | 145 => exact k_r145 k
  | 146 => exact k_r146 k
  | 147 => exact k_r147 k
  | 148 => exact k_r148 k
  | 149 => exact k_r149 k
  | 150 => exact k_r150 k
  | 151 => exact k_r151 k
  | 152 => exact k_r152 k
  | 153 => exact k_r153 k
  | 154 => exact k_r154 k
  | 155 => exact k_r155 k
  | 156 => exact k_r156 k
  | 157 => exact k_r157 k
  | 158 => exact k_r158 k
  | 159 => exact k_r159 k
  | 160 => exact k_r160 k
  | _ + 161 => rfl
