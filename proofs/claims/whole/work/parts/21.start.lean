def z_out : x_S := x_push z_238 (.inl (3, 1, x_at0 3))
def y_D0 : y_D := fun h => if h < 127 then (if h < 95 then (if h < 79 then (if h < 71 then (if h < 67 then (if h < 65 then (((fun _ => 0), (fun _ => 0), (fun _ => none), 0, 0)) else (if h < 66 then (((fun _ => 0), (fun _ => 0), (fun _ => none), 0, 0)) else (((fun k => if k = 2 then (-1) else 0), (fun _ => 0), (fun _ => none), 0, 0)))) else (if h < 69 then (if h < 68 then (((fun _ => 0), (fun _ => 0), (fun _ => none), 0, 0)) else (((fun _ => 0), (fun _ => 0), (fun _ => none), 0, 0))) else (if h < 70 then (((fun _ => 0), (fun _ => 0), (fun _ => none), 0, 0)) else (((fun _ => 0), (fun _ => 0), (fun _ => none), 0, 0))))) else (if h < 75 then (if h < 73 then (if h < 72 then (((fun _ => 0), (fun _ => 0), (fun _ => none), 0, 0)) else (((fun _ => 0), (fun _ => 0), (fun _ => none), 0, 0))) else (if h < 74 then (((fun _ => 0), (fun _ => 0), (fun _ => none), 0, 0)) else (((fun k => if k = 0 then 2 else 0), (fun _ => 0), (fun _ => none), 0, 0)))) else (if h < 77 then (if h < 76 then (((fun _ => 0), (fun _ => 0), (fun _ => none), 0, 0)) else (((fun _ => 0), (fun _ => 0), (va_up (va_up (va_up (va_up (fun _ => none) 0 (some 92)) 1 (some 94)) 2 (some 96)) 3 (some 98)), 0, 0))) else (if h < 78 then (((fun _ => 0), (fun _ => 0), (va_up (va_up (va_up (va_up (va_up (va_up (fun _ => none) 0 (some 100)) 1 (some 102)) 2 (some 104)) 3 (some 106)) 4 (some 108)) 5 (some 110)), 0, 0)) else (((fun k => if k = 0 then 3 else 0), (fun _ => 0), (fun _ => none), 0, 0)))))) else (if h < 87 then (if h < 83 then (if h < 81 then (if h < 80 then (((fun _ => 0), (fun _ => 0), (fun _ => none), 0, 0)) else (((fun k => if k = 0 then 2 else 0), (fun _ => 0), (fun _ => none), 0, 0))) else (if h < 82 then (((fun _ => 0), (fun _ => 0), (fun _ => none), 0, 0)) else (((fun k => if k = 0 then 3 else 0), (fun _ => 0), (fun _ => none), 0, 0)))) else (if h < 85 then (if h < 84 then (((fun _ => 0), (fun _ => 0), (fun _ => none), 0, 0)) else (((fun k => if k = 0 then 3 else 0), (fun _ => 0), (fun _ => none), 0, 0))) else (if h < 86 then (((fun _ => 0), (fun _ => 0), (fun _ => none), 0, 0)) else (((fun k => if k = 0 then 5 else 0), (fun _ => 0), (fun _ => none), 0, 0))))) else (if h < 91 then (if h < 89 then (if h < 88 then (((fun _ => 0), (fun _ => 0), (fun _ => none), 0, 0)) else (((fun k => if k = 0 then 3 else 0), (fun _ => 0), (fun _ => none), 0, 0))) else (if h < 90 then (((fun _ => 0), (fun _ => 0), (fun _ => none), 0, 0)) else (((fun k => if k = 0 then 4 else 0), (fun _ => 0), (fun _ => none), 0, 0)))) else (if h < 93 then (if h < 92 then (((fun _ => 0), (fun _ => 0), (fun _ => none), 0, 0)) else (((fun _ => 0), (fun _ => 0), (fun _ => some 93), 1, 0))) else (if h < 94 then (((fun _ => 0), (fun _ => 0), (fun _ => none), 3, 0)) else (((fun _ => 0), (fun _ => 0), (fun _ => some 95), 1, 0))))))) else (if h < 111 then (if h < 103 then (if h < 99 then (if h < 97 then (if h < 96 then (((fun _ => 0), (fun _ => 0), (fun _ => none), 3, 0)) else (((fun _ => 0), (fun _ => 0), (fun _ => some 97), 1, 0))) else (if h < 98 then (((fun _ => 0), (fun _ => 0), (fun _ => none), 3, 0)) else (((fun _ => 0), (fun _ => 0), (fun _ => some 99), 1, 0)))) else (if h < 101 then (if h < 100 then (((fun _ => 0), (fun _ => 0), (fun _ => none), 3, 0)) else (((fun k => if k = 1 then 1 else 0), (fun _ => 0), (fun _ => some 101), 2, 0))) else (if h < 102 then (((fun _ => 0), (fun _ => 0), (fun _ => none), 3, 0)) else (((fun k => if k = 1 then 1 else 0), (fun _ => 0), (fun _ => some 103), 2, 0))))) else (if h < 107 then (if h < 105 then (if h < 104 then (((fun _ => 0), (fun _ => 0), (fun _ => none), 3, 0)) else (((fun k => if k = 1 then 1 else 0), (fun _ => 0), (fun _ => some 105), 2, 0))) else (if h < 106 then (((fun _ => 0), (fun _ => 0), (fun _ => none), 3, 0)) else (((fun k => if k = 1 then 1 else 0), (fun _ => 0), (fun _ => some 107), 2, 0)))) else (if h < 109 then (if h < 108 then (((fun _ => 0), (fun _ => 0), (fun _ => none), 3, 0)) else (((fun k => if k = 1 then 1 else 0), (fun _ => 0), (fun _ => some 109), 2, 0))) else (if h < 110 then (((fun _ => 0), (fun _ => 0), (fun _ => none), 3, 0)) else (((fun k => if k = 1 then 1 else 0), (fun _ => 0), (fun _ => some 111), 2, 0)))))) else (if h < 119 then (if h < 115 then (if h < 113 then (if h < 112 then (((fun _ => 0), (fun _ => 0), (fun _ => none), 3, 0)) else (((fun _ => 0), (fun _ => 0), (fun _ => none), 0, 0))) else (if h < 114 then (((fun k => if k = 0 then 2 else 0), (fun _ => 0), (fun _ => none), 0, 0)) else (((fun _ => 0), (fun _ => 0), (fun _ => none), 0, 0)))) else (if h < 117 then (if h < 116 then (((fun _ => 0), (fun _ => 0), (va_up (va_up (va_up (va_up (fun _ => none) 0 (some 131)) 1 (some 133)) 2 (some 135)) 3 (some 137)), 0, 0)) else (((fun _ => 0), (fun _ => 0), (va_up (va_up (va_up (va_up (va_up (va_up (fun _ => none) 0 (some 139)) 1 (some 141)) 2 (some 143)) 3 (some 145)) 4 (some 147)) 5 (some 149)), 0, 0))) else (if h < 118 then (((fun k => if k = 0 then 3 else 0), (fun _ => 0), (fun _ => none), 0, 0)) else (((fun _ => 0), (fun _ => 0), (fun _ => none), 0, 0))))) else (if h < 123 then (if h < 121 then (if h < 120 then (((fun k => if k = 0 then 2 else 0), (fun _ => 0), (fun _ => none), 0, 0)) else (((fun _ => 0), (fun _ => 0), (fun _ => none), 0, 0))) else (if h < 122 then (((fun k => if k = 0 then 3 else 0), (fun _ => 0), (fun _ => none), 0, 0)) else (((fun _ => 0), (fun _ => 0), (fun _ => none), 0, 0)))) else (if h < 125 then (if h < 124 then (((fun k => if k = 0 then 3 else 0), (fun _ => 0), (fun _ => none), 0, 0)) else (((fun _ => 0), (fun _ => 0), (fun _ => none), 0, 0))) else (if h < 126 then (((fun k => if k = 0 then 5 else 0), (fun _ => 0), (fun _ => none), 0, 0)) else (((fun _ => 0), (fun _ => 0), (fun _ => none), 0, 0)))))))) else (if h < 159 then (if h < 143 then (if h < 135 then (if h < 131 then (if h < 129 then (if h < 128 then (((fun k => if k = 0 then 3 else 0), (fun _ => 0), (fun _ => none), 0, 0)) else (((fun _ => 0), (fun _ => 0), (fun _ => none), 0, 0))) else (if h < 130 then (((fun k => if k = 0 then 4 else 0), (fun _ => 0), (fun _ => none), 0, 0)) else (((fun _ => 0), (fun _ => 0), (fun _ => none), 0, 0)))) else (if h < 133 then (if h < 132 then (((fun _ => 0), (fun _ => 0), (fun _ => some 132), 1, 0)) else (((fun _ => 0), (fun _ => 0), (fun _ => none), 3, 0))) else (if h < 134 then (((fun _ => 0), (fun _ => 0), (fun _ => some 134), 1, 0)) else (((fun _ => 0), (fun _ => 0), (fun _ => none), 3, 0))))) else (if h < 139 then (if h < 137 then (if h < 136 then (((fun _ => 0), (fun _ => 0), (fun _ => some 136), 1, 0)) else (((fun _ => 0), (fun _ => 0), (fun _ => none), 3, 0))) else (if h < 138 then (((fun _ => 0), (fun _ => 0), (fun _ => some 138), 1, 0)) else (((fun _ => 0), (fun _ => 0), (fun _ => none), 3, 0)))) else (if h < 141 then (if h < 140 then (((fun k => if k = 1 then 1 else 0), (fun _ => 0), (fun _ => some 140), 2, 0)) else (((fun _ => 0), (fun _ => 0), (fun _ => none), 3, 0))) else (if h < 142 then (((fun k => if k = 1 then 1 else 0), (fun _ => 0), (fun _ => some 142), 2, 0)) else (((fun _ => 0), (fun _ => 0), (fun _ => none), 3, 0)))))) else (if h < 151 then (if h < 147 then (if h < 145 then (if h < 144 then (((fun k => if k = 1 then 1 else 0), (fun _ => 0), (fun _ => some 144), 2, 0)) else (((fun _ => 0), (fun _ => 0), (fun _ => none), 3, 0))) else (if h < 146 then (((fun k => if k = 1 then 1 else 0), (fun _ => 0), (fun _ => some 146), 2, 0)) else (((fun _ => 0), (fun _ => 0), (fun _ => none), 3, 0)))) else (if h < 149 then (if h < 148 then (((fun k => if k = 1 then 1 else 0), (fun _ => 0), (fun _ => some 148), 2, 0)) else (((fun _ => 0), (fun _ => 0), (fun _ => none), 3, 0))) else (if h < 150 then (((fun k => if k = 1 then 1 else 0), (fun _ => 0), (fun _ => some 150), 2, 0)) else (((fun _ => 0), (fun _ => 0), (fun _ => none), 3, 0))))) else (if h < 155 then (if h < 153 then (if h < 152 then (((fun _ => 0), (fun _ => 0), (fun _ => none), 0, 0)) else (((fun _ => 0), (fun _ => 0), (fun _ => none), 0, 0))) else (if h < 154 then (((fun _ => 0), (fun _ => 0), (fun _ => none), 0, 0)) else (((fun _ => 0), (fun _ => 0), (fun _ => none), 0, 0)))) else (if h < 157 then (if h < 156 then (((fun _ => 0), (fun _ => 0), (fun _ => none), 0, 0)) else (((fun _ => 0), (fun _ => 0), (fun _ => none), 0, 0))) else (if h < 158 then (((fun _ => 0), (fun _ => 0), (fun _ => none), 0, 0)) else (((fun _ => 0), (fun _ => 0), (fun _ => none), 0, 0))))))) else (if h < 175 then (if h < 167 then (if h < 163 then (if h < 161 then (if h < 160 then (((fun _ => 0), (fun _ => 0), (fun _ => none), 0, 0)) else (((fun _ => 0), (fun _ => 0), (fun _ => none), 0, 0))) else (if h < 162 then (((fun _ => 0), (fun _ => 0), (fun _ => none), 0, 0)) else (((fun _ => 0), (fun _ => 0), (fun _ => none), 0, 0)))) else (if h < 165 then (if h < 164 then (((fun _ => 0), (fun _ => 0), (fun _ => none), 0, 0)) else (((fun _ => 0), (fun _ => 0), (fun _ => none), 0, 0))) else (if h < 166 then (((fun _ => 0), (fun _ => 0), (fun _ => none), 0, 0)) else (((fun _ => 0), (fun _ => 0), (fun _ => none), 0, 0))))) else (if h < 171 then (if h < 169 then (if h < 168 then (((fun _ => 0), (fun _ => 0), (fun _ => none), 0, 0)) else (((fun _ => 0), (fun _ => 0), (fun _ => none), 0, 0))) else (if h < 170 then (((fun k => if k = 10 then (-1) else 0), (fun _ => 0), (fun _ => none), 0, 0)) else (((fun _ => 0), (fun _ => 0), (fun _ => none), 0, 0)))) else (if h < 173 then (if h < 172 then (((fun _ => 0), (fun _ => 0), (fun _ => none), 0, 0)) else (((fun _ => 0), (fun _ => 0), (fun _ => none), 0, 0))) else (if h < 174 then (((fun _ => 0), (fun _ => 0), (fun _ => none), 0, 0)) else (((fun _ => 0), (fun _ => 0), (fun _ => none), 0, 0)))))) else (if h < 183 then (if h < 179 then (if h < 177 then (if h < 176 then (((fun _ => 0), (fun _ => 0), (fun _ => none), 0, 0)) else (((fun _ => 0), (fun _ => 0), (fun _ => none), 0, 0))) else (if h < 178 then (((fun _ => 0), (fun _ => 0), (fun _ => none), 0, 0)) else (((fun _ => 0), (fun _ => 0), (fun _ => none), 0, 0)))) else (if h < 181 then (if h < 180 then (((fun _ => 0), (fun _ => 0), (fun _ => none), 0, 0)) else (((fun _ => 0), (fun _ => 0), (fun _ => none), 0, 0))) else (if h < 182 then (((fun _ => 0), (fun _ => 0), (fun _ => none), 0, 0)) else (((fun _ => 0), (fun _ => 0), (fun _ => none), 0, 0))))) else (if h < 187 then (if h < 185 then (if h < 184 then (((fun _ => 0), (fun _ => 0), (fun _ => none), 0, 0)) else (((fun _ => 0), (fun _ => 0), (fun _ => none), 0, 0))) else (if h < 186 then (((fun _ => 0), (fun _ => 0), (fun _ => none), 0, 0)) else (((fun _ => 0), (fun _ => 0), (fun _ => none), 0, 0)))) else (if h < 189 then (if h < 188 then (((fun _ => 0), (fun _ => 0), (fun _ => none), 0, 0)) else (((fun _ => 0), (fun _ => 0), (fun _ => none), 0, 0))) else (if h < 190 then (((fun _ => 0), (fun _ => 0), (fun _ => none), 0, 0)) else (((fun _ => 0), (fun _ => 0), (fun _ => none), 0, 0))))))))
def y_L0 : List Nat := z_out.2.1
set_option maxRecDepth 100000 in
theorem z_t64 : z_out.2.2 64 = y_lay 64 (y_D0 64) := rfl
set_option maxRecDepth 100000 in
theorem z_t65 : z_out.2.2 65 = y_lay 65 (y_D0 65) := rfl
set_option maxRecDepth 100000 in
theorem z_t66 : z_out.2.2 66 = y_lay 66 (y_D0 66) := rfl
set_option maxRecDepth 100000 in
theorem z_t67 : z_out.2.2 67 = y_lay 67 (y_D0 67) := rfl
set_option maxRecDepth 100000 in
theorem z_t68 : z_out.2.2 68 = y_lay 68 (y_D0 68) := rfl
set_option maxRecDepth 100000 in
theorem z_t69 : z_out.2.2 69 = y_lay 69 (y_D0 69) := rfl
set_option maxRecDepth 100000 in
theorem z_t70 : z_out.2.2 70 = y_lay 70 (y_D0 70) := rfl
set_option maxRecDepth 100000 in
theorem z_t71 : z_out.2.2 71 = y_lay 71 (y_D0 71) := rfl
set_option maxRecDepth 100000 in
theorem z_t72 : z_out.2.2 72 = y_lay 72 (y_D0 72) := rfl
set_option maxRecDepth 100000 in
theorem z_t73 : z_out.2.2 73 = y_lay 73 (y_D0 73) := rfl
set_option maxRecDepth 100000 in
theorem z_t74 : z_out.2.2 74 = y_lay 74 (y_D0 74) := rfl
set_option maxRecDepth 100000 in
theorem z_t75 : z_out.2.2 75 = y_lay 75 (y_D0 75) := rfl
set_option maxRecDepth 100000 in
theorem z_t76 : z_out.2.2 76 = y_lay 76 (y_D0 76) := rfl
set_option maxRecDepth 100000 in
theorem z_t77 : z_out.2.2 77 = y_lay 77 (y_D0 77) := rfl
set_option maxRecDepth 100000 in
theorem z_t78 : z_out.2.2 78 = y_lay 78 (y_D0 78) := rfl
set_option maxRecDepth 100000 in
theorem z_t79 : z_out.2.2 79 = y_lay 79 (y_D0 79) := rfl
set_option maxRecDepth 100000 in
theorem z_t80 : z_out.2.2 80 = y_lay 80 (y_D0 80) := rfl
set_option maxRecDepth 100000 in
theorem z_t81 : z_out.2.2 81 = y_lay 81 (y_D0 81) := rfl
set_option maxRecDepth 100000 in
theorem z_t82 : z_out.2.2 82 = y_lay 82 (y_D0 82) := rfl
set_option maxRecDepth 100000 in
theorem z_t83 : z_out.2.2 83 = y_lay 83 (y_D0 83) := rfl
set_option maxRecDepth 100000 in
theorem z_t84 : z_out.2.2 84 = y_lay 84 (y_D0 84) := rfl
set_option maxRecDepth 100000 in
theorem z_t85 : z_out.2.2 85 = y_lay 85 (y_D0 85) := rfl
set_option maxRecDepth 100000 in
theorem z_t86 : z_out.2.2 86 = y_lay 86 (y_D0 86) := rfl
set_option maxRecDepth 100000 in
theorem z_t87 : z_out.2.2 87 = y_lay 87 (y_D0 87) := rfl
set_option maxRecDepth 100000 in
theorem z_t88 : z_out.2.2 88 = y_lay 88 (y_D0 88) := rfl
set_option maxRecDepth 100000 in
theorem z_t89 : z_out.2.2 89 = y_lay 89 (y_D0 89) := rfl
set_option maxRecDepth 100000 in
theorem z_t90 : z_out.2.2 90 = y_lay 90 (y_D0 90) := rfl
set_option maxRecDepth 100000 in
theorem z_t91 : z_out.2.2 91 = y_lay 91 (y_D0 91) := rfl
set_option maxRecDepth 100000 in
theorem z_t92 : z_out.2.2 92 = y_lay 92 (y_D0 92) := rfl
set_option maxRecDepth 100000 in
theorem z_t93 : z_out.2.2 93 = y_lay 93 (y_D0 93) := rfl
set_option maxRecDepth 100000 in
theorem z_t94 : z_out.2.2 94 = y_lay 94 (y_D0 94) := rfl
set_option maxRecDepth 100000 in
theorem z_t95 : z_out.2.2 95 = y_lay 95 (y_D0 95) := rfl
set_option maxRecDepth 100000 in
theorem z_t96 : z_out.2.2 96 = y_lay 96 (y_D0 96) := rfl
set_option maxRecDepth 100000 in
theorem z_t97 : z_out.2.2 97 = y_lay 97 (y_D0 97) := rfl
set_option maxRecDepth 100000 in
theorem z_t98 : z_out.2.2 98 = y_lay 98 (y_D0 98) := rfl
set_option maxRecDepth 100000 in
theorem z_t99 : z_out.2.2 99 = y_lay 99 (y_D0 99) := rfl
set_option maxRecDepth 100000 in
theorem z_t100 : z_out.2.2 100 = y_lay 100 (y_D0 100) := rfl
set_option maxRecDepth 100000 in
theorem z_t101 : z_out.2.2 101 = y_lay 101 (y_D0 101) := rfl
set_option maxRecDepth 100000 in
theorem z_t102 : z_out.2.2 102 = y_lay 102 (y_D0 102) := rfl
set_option maxRecDepth 100000 in
theorem z_t103 : z_out.2.2 103 = y_lay 103 (y_D0 103) := rfl
set_option maxRecDepth 100000 in
theorem z_t104 : z_out.2.2 104 = y_lay 104 (y_D0 104) := rfl
set_option maxRecDepth 100000 in
theorem z_t105 : z_out.2.2 105 = y_lay 105 (y_D0 105) := rfl
set_option maxRecDepth 100000 in
theorem z_t106 : z_out.2.2 106 = y_lay 106 (y_D0 106) := rfl
set_option maxRecDepth 100000 in
theorem z_t107 : z_out.2.2 107 = y_lay 107 (y_D0 107) := rfl
set_option maxRecDepth 100000 in
theorem z_t108 : z_out.2.2 108 = y_lay 108 (y_D0 108) := rfl
set_option maxRecDepth 100000 in
theorem z_t109 : z_out.2.2 109 = y_lay 109 (y_D0 109) := rfl
set_option maxRecDepth 100000 in
theorem z_t110 : z_out.2.2 110 = y_lay 110 (y_D0 110) := rfl
set_option maxRecDepth 100000 in
theorem z_t111 : z_out.2.2 111 = y_lay 111 (y_D0 111) := rfl
set_option maxRecDepth 100000 in
theorem z_t112 : z_out.2.2 112 = y_lay 112 (y_D0 112) := rfl
set_option maxRecDepth 100000 in
theorem z_t113 : z_out.2.2 113 = y_lay 113 (y_D0 113) := rfl
set_option maxRecDepth 100000 in
theorem z_t114 : z_out.2.2 114 = y_lay 114 (y_D0 114) := rfl
set_option maxRecDepth 100000 in
theorem z_t115 : z_out.2.2 115 = y_lay 115 (y_D0 115) := rfl
set_option maxRecDepth 100000 in
theorem z_t116 : z_out.2.2 116 = y_lay 116 (y_D0 116) := rfl
set_option maxRecDepth 100000 in
theorem z_t117 : z_out.2.2 117 = y_lay 117 (y_D0 117) := rfl
set_option maxRecDepth 100000 in
theorem z_t118 : z_out.2.2 118 = y_lay 118 (y_D0 118) := rfl
set_option maxRecDepth 100000 in
theorem z_t119 : z_out.2.2 119 = y_lay 119 (y_D0 119) := rfl
set_option maxRecDepth 100000 in
theorem z_t120 : z_out.2.2 120 = y_lay 120 (y_D0 120) := rfl
set_option maxRecDepth 100000 in
theorem z_t121 : z_out.2.2 121 = y_lay 121 (y_D0 121) := rfl
set_option maxRecDepth 100000 in
theorem z_t122 : z_out.2.2 122 = y_lay 122 (y_D0 122) := rfl
set_option maxRecDepth 100000 in
theorem z_t123 : z_out.2.2 123 = y_lay 123 (y_D0 123) := rfl
set_option maxRecDepth 100000 in
theorem z_t124 : z_out.2.2 124 = y_lay 124 (y_D0 124) := rfl
set_option maxRecDepth 100000 in
theorem z_t125 : z_out.2.2 125 = y_lay 125 (y_D0 125) := rfl
set_option maxRecDepth 100000 in
theorem z_t126 : z_out.2.2 126 = y_lay 126 (y_D0 126) := rfl
set_option maxRecDepth 100000 in
theorem z_t127 : z_out.2.2 127 = y_lay 127 (y_D0 127) := rfl
set_option maxRecDepth 100000 in
theorem z_t128 : z_out.2.2 128 = y_lay 128 (y_D0 128) := rfl
set_option maxRecDepth 100000 in
theorem z_t129 : z_out.2.2 129 = y_lay 129 (y_D0 129) := rfl
set_option maxRecDepth 100000 in
theorem z_t130 : z_out.2.2 130 = y_lay 130 (y_D0 130) := rfl
set_option maxRecDepth 100000 in
theorem z_t131 : z_out.2.2 131 = y_lay 131 (y_D0 131) := rfl
set_option maxRecDepth 100000 in
theorem z_t132 : z_out.2.2 132 = y_lay 132 (y_D0 132) := rfl
set_option maxRecDepth 100000 in
theorem z_t133 : z_out.2.2 133 = y_lay 133 (y_D0 133) := rfl
set_option maxRecDepth 100000 in
theorem z_t134 : z_out.2.2 134 = y_lay 134 (y_D0 134) := rfl
set_option maxRecDepth 100000 in
theorem z_t135 : z_out.2.2 135 = y_lay 135 (y_D0 135) := rfl
set_option maxRecDepth 100000 in
theorem z_t136 : z_out.2.2 136 = y_lay 136 (y_D0 136) := rfl
set_option maxRecDepth 100000 in
theorem z_t137 : z_out.2.2 137 = y_lay 137 (y_D0 137) := rfl
set_option maxRecDepth 100000 in
theorem z_t138 : z_out.2.2 138 = y_lay 138 (y_D0 138) := rfl
set_option maxRecDepth 100000 in
theorem z_t139 : z_out.2.2 139 = y_lay 139 (y_D0 139) := rfl
set_option maxRecDepth 100000 in
theorem z_t140 : z_out.2.2 140 = y_lay 140 (y_D0 140) := rfl
set_option maxRecDepth 100000 in
theorem z_t141 : z_out.2.2 141 = y_lay 141 (y_D0 141) := rfl
set_option maxRecDepth 100000 in
theorem z_t142 : z_out.2.2 142 = y_lay 142 (y_D0 142) := rfl
set_option maxRecDepth 100000 in
theorem z_t143 : z_out.2.2 143 = y_lay 143 (y_D0 143) := rfl
set_option maxRecDepth 100000 in
theorem z_t144 : z_out.2.2 144 = y_lay 144 (y_D0 144) := rfl
set_option maxRecDepth 100000 in
theorem z_t145 : z_out.2.2 145 = y_lay 145 (y_D0 145) := rfl
set_option maxRecDepth 100000 in
theorem z_t146 : z_out.2.2 146 = y_lay 146 (y_D0 146) := rfl
set_option maxRecDepth 100000 in
theorem z_t147 : z_out.2.2 147 = y_lay 147 (y_D0 147) := rfl
set_option maxRecDepth 100000 in
theorem z_t148 : z_out.2.2 148 = y_lay 148 (y_D0 148) := rfl
set_option maxRecDepth 100000 in
theorem z_t149 : z_out.2.2 149 = y_lay 149 (y_D0 149) := rfl
set_option maxRecDepth 100000 in
theorem z_t150 : z_out.2.2 150 = y_lay 150 (y_D0 150) := rfl
set_option maxRecDepth 100000 in
theorem z_t151 : z_out.2.2 151 = y_lay 151 (y_D0 151) := rfl
set_option maxRecDepth 100000 in
theorem z_t152 : z_out.2.2 152 = y_lay 152 (y_D0 152) := rfl
set_option maxRecDepth 100000 in
theorem z_t153 : z_out.2.2 153 = y_lay 153 (y_D0 153) := rfl
set_option maxRecDepth 100000 in
theorem z_t154 : z_out.2.2 154 = y_lay 154 (y_D0 154) := rfl
set_option maxRecDepth 100000 in
theorem z_t155 : z_out.2.2 155 = y_lay 155 (y_D0 155) := rfl
set_option maxRecDepth 100000 in
theorem z_t156 : z_out.2.2 156 = y_lay 156 (y_D0 156) := rfl
set_option maxRecDepth 100000 in
theorem z_t157 : z_out.2.2 157 = y_lay 157 (y_D0 157) := rfl
set_option maxRecDepth 100000 in
theorem z_t158 : z_out.2.2 158 = y_lay 158 (y_D0 158) := rfl
set_option maxRecDepth 100000 in
theorem z_t159 : z_out.2.2 159 = y_lay 159 (y_D0 159) := rfl
set_option maxRecDepth 100000 in
theorem z_t160 : z_out.2.2 160 = y_lay 160 (y_D0 160) := rfl
set_option maxRecDepth 100000 in
theorem z_t161 : z_out.2.2 161 = y_lay 161 (y_D0 161) := rfl
set_option maxRecDepth 100000 in
theorem z_t162 : z_out.2.2 162 = y_lay 162 (y_D0 162) := rfl
set_option maxRecDepth 100000 in
theorem z_t163 : z_out.2.2 163 = y_lay 163 (y_D0 163) := rfl
set_option maxRecDepth 100000 in
theorem z_t164 : z_out.2.2 164 = y_lay 164 (y_D0 164) := rfl
set_option maxRecDepth 100000 in
theorem z_t165 : z_out.2.2 165 = y_lay 165 (y_D0 165) := rfl
set_option maxRecDepth 100000 in
theorem z_t166 : z_out.2.2 166 = y_lay 166 (y_D0 166) := rfl
set_option maxRecDepth 100000 in
theorem z_t167 : z_out.2.2 167 = y_lay 167 (y_D0 167) := rfl
set_option maxRecDepth 100000 in
theorem z_t168 : z_out.2.2 168 = y_lay 168 (y_D0 168) := rfl
set_option maxRecDepth 100000 in
theorem z_t169 : z_out.2.2 169 = y_lay 169 (y_D0 169) := rfl
set_option maxRecDepth 100000 in
theorem z_t170 : z_out.2.2 170 = y_lay 170 (y_D0 170) := rfl
set_option maxRecDepth 100000 in
theorem z_t171 : z_out.2.2 171 = y_lay 171 (y_D0 171) := rfl
set_option maxRecDepth 100000 in
theorem z_t172 : z_out.2.2 172 = y_lay 172 (y_D0 172) := rfl
set_option maxRecDepth 100000 in
theorem z_t173 : z_out.2.2 173 = y_lay 173 (y_D0 173) := rfl
set_option maxRecDepth 100000 in
theorem z_t174 : z_out.2.2 174 = y_lay 174 (y_D0 174) := rfl
set_option maxRecDepth 100000 in
theorem z_t175 : z_out.2.2 175 = y_lay 175 (y_D0 175) := rfl
set_option maxRecDepth 100000 in
theorem z_t176 : z_out.2.2 176 = y_lay 176 (y_D0 176) := rfl
set_option maxRecDepth 100000 in
theorem z_t177 : z_out.2.2 177 = y_lay 177 (y_D0 177) := rfl
set_option maxRecDepth 100000 in
theorem z_t178 : z_out.2.2 178 = y_lay 178 (y_D0 178) := rfl
set_option maxRecDepth 100000 in
theorem z_t179 : z_out.2.2 179 = y_lay 179 (y_D0 179) := rfl
set_option maxRecDepth 100000 in
theorem z_t180 : z_out.2.2 180 = y_lay 180 (y_D0 180) := rfl
set_option maxRecDepth 100000 in
theorem z_t181 : z_out.2.2 181 = y_lay 181 (y_D0 181) := rfl
set_option maxRecDepth 100000 in
theorem z_t182 : z_out.2.2 182 = y_lay 182 (y_D0 182) := rfl
set_option maxRecDepth 100000 in
theorem z_t183 : z_out.2.2 183 = y_lay 183 (y_D0 183) := rfl
set_option maxRecDepth 100000 in
theorem z_t184 : z_out.2.2 184 = y_lay 184 (y_D0 184) := rfl
set_option maxRecDepth 100000 in
theorem z_t185 : z_out.2.2 185 = y_lay 185 (y_D0 185) := rfl
set_option maxRecDepth 100000 in
theorem z_t186 : z_out.2.2 186 = y_lay 186 (y_D0 186) := rfl
set_option maxRecDepth 100000 in
theorem z_t187 : z_out.2.2 187 = y_lay 187 (y_D0 187) := rfl
set_option maxRecDepth 100000 in
theorem z_t188 : z_out.2.2 188 = y_lay 188 (y_D0 188) := rfl
set_option maxRecDepth 100000 in
theorem z_t189 : z_out.2.2 189 = y_lay 189 (y_D0 189) := rfl
set_option maxRecDepth 100000 in
theorem z_t190 : z_out.2.2 190 = y_lay 190 (y_D0 190) := rfl
set_option maxRecDepth 100000 in
theorem z_L : z_out.2.1 = [64, 65, 66, 67, 68, 69, 70, 71, 72, 73, 74, 75, 76, 77, 78, 79, 80, 81, 82, 83, 84, 85, 86, 87, 88, 89, 90, 91, 92, 93, 94, 95, 96, 97, 98, 99, 100, 101, 102, 103, 104, 105, 106, 107, 108, 109, 110, 111, 112, 113, 114, 115, 116, 117, 118, 119, 120, 121, 122, 123, 124, 125, 126, 127, 128, 129, 130, 131, 132, 133, 134, 135, 136, 137, 138, 139, 140, 141, 142, 143, 144, 145, 146, 147, 148, 149, 150, 151, 152, 153, 154, 155, 156, 157, 158, 159, 190, 160, 161, 162, 163, 164, 165, 166, 167, 168, 169, 170, 171, 172, 173, 174, 175, 176, 177, 178, 179, 180, 181, 182, 183, 184, 185, 186, 187, 188, 189] := by rfl
set_option maxRecDepth 100000 in
theorem z_n : z_out.1 = 191 := rfl
theorem y_ok0 : y_ok y_L0 := by
  intro h hh
  unfold y_L0
  rw [z_L]
  obtain ⟨h1, h2⟩ := hh
  have e : h = h - 64 + 64 := by omega
  rw [e]
  exact (by decide +kernel : ∀ k, k < 127 → k + 64 ∈ [64, 65, 66, 67, 68, 69, 70, 71, 72, 73, 74, 75, 76, 77, 78, 79, 80, 81, 82, 83, 84, 85, 86, 87, 88, 89, 90, 91, 92, 93, 94, 95, 96, 97, 98, 99, 100, 101, 102, 103, 104, 105, 106, 107, 108, 109, 110, 111, 112, 113, 114, 115, 116, 117, 118, 119, 120, 121, 122, 123, 124, 125, 126, 127, 128, 129, 130, 131, 132, 133, 134, 135, 136, 137, 138, 139, 140, 141, 142, 143, 144, 145, 146, 147, 148, 149, 150, 151, 152, 153, 154, 155, 156, 157, 158, 159, 190, 160, 161, 162, 163, 164, 165, 166, 167, 168, 169, 170, 171, 172, 173, 174, 175, 176, 177, 178, 179, 180, 181, 182, 183, 184, 185, 186, 187, 188, 189]) (h - 64) (by omega)
theorem z_all : ∀ h ∈ z_out.2.1, z_out.2.2 h = y_lay h (y_D0 h) := by
  rw [z_L]
  intro h hh
  simp only [List.mem_cons, List.not_mem_nil, or_false] at hh
  rcases hh with rfl | rfl | rfl | rfl | rfl | rfl | rfl | rfl | rfl | rfl | rfl | rfl | rfl | rfl | rfl | rfl | rfl | rfl | rfl | rfl | rfl | rfl | rfl | rfl | rfl | rfl | rfl | rfl | rfl | rfl | rfl | rfl | rfl | rfl | rfl | rfl | rfl | rfl | rfl | rfl | rfl | rfl | rfl | rfl | rfl | rfl | rfl | rfl | rfl | rfl | rfl | rfl | rfl | rfl | rfl | rfl | rfl | rfl | rfl | rfl | rfl | rfl | rfl | rfl | rfl | rfl | rfl | rfl | rfl | rfl | rfl | rfl | rfl | rfl | rfl | rfl | rfl | rfl | rfl | rfl | rfl | rfl | rfl | rfl | rfl | rfl | rfl | rfl | rfl | rfl | rfl | rfl | rfl | rfl | rfl | rfl | rfl | rfl | rfl | rfl | rfl | rfl | rfl | rfl | rfl | rfl | rfl | rfl | rfl | rfl | rfl | rfl | rfl | rfl | rfl | rfl | rfl | rfl | rfl | rfl | rfl | rfl | rfl | rfl | rfl | rfl | rfl
  · exact z_t64
  · exact z_t65
  · exact z_t66
  · exact z_t67
  · exact z_t68
  · exact z_t69
  · exact z_t70
  · exact z_t71
  · exact z_t72
  · exact z_t73
  · exact z_t74
  · exact z_t75
  · exact z_t76
  · exact z_t77
  · exact z_t78
  · exact z_t79
  · exact z_t80
  · exact z_t81
  · exact z_t82
  · exact z_t83
  · exact z_t84
  · exact z_t85
  · exact z_t86
  · exact z_t87
  · exact z_t88
  · exact z_t89
  · exact z_t90
  · exact z_t91
  · exact z_t92
  · exact z_t93
  · exact z_t94
  · exact z_t95
  · exact z_t96
  · exact z_t97
  · exact z_t98
  · exact z_t99
  · exact z_t100
  · exact z_t101
  · exact z_t102
  · exact z_t103
  · exact z_t104
  · exact z_t105
  · exact z_t106
  · exact z_t107
  · exact z_t108
  · exact z_t109
  · exact z_t110
  · exact z_t111
  · exact z_t112
  · exact z_t113
  · exact z_t114
  · exact z_t115
  · exact z_t116
  · exact z_t117
  · exact z_t118
  · exact z_t119
  · exact z_t120
  · exact z_t121
  · exact z_t122
  · exact z_t123
  · exact z_t124
  · exact z_t125
  · exact z_t126
  · exact z_t127
  · exact z_t128
  · exact z_t129
  · exact z_t130
  · exact z_t131
  · exact z_t132
  · exact z_t133
  · exact z_t134
  · exact z_t135
  · exact z_t136
  · exact z_t137
  · exact z_t138
  · exact z_t139
  · exact z_t140
  · exact z_t141
  · exact z_t142
  · exact z_t143
  · exact z_t144
  · exact z_t145
  · exact z_t146
  · exact z_t147
  · exact z_t148
  · exact z_t149
  · exact z_t150
  · exact z_t151
  · exact z_t152
  · exact z_t153
  · exact z_t154
  · exact z_t155
  · exact z_t156
  · exact z_t157
  · exact z_t158
  · exact z_t159
  · exact z_t190
  · exact z_t160
  · exact z_t161
  · exact z_t162
  · exact z_t163
  · exact z_t164
  · exact z_t165
  · exact z_t166
  · exact z_t167
  · exact z_t168
  · exact z_t169
  · exact z_t170
  · exact z_t171
  · exact z_t172
  · exact z_t173
  · exact z_t174
  · exact z_t175
  · exact z_t176
  · exact z_t177
  · exact z_t178
  · exact z_t179
  · exact z_t180
  · exact z_t181
  · exact z_t182
  · exact z_t183
  · exact z_t184
  · exact z_t185
  · exact z_t186
  · exact z_t187
  · exact z_t188
  · exact z_t189
section R21
variable {V : x_E} {own nm : String} {cc : ByteArray} {nL d MC MS pc ce sl : Nat} {ret : Option FieldType} {Q : Option Value → x_S → Prop} {E : x_P} {ls : List (Nat × Value)} {st : List Value} {S S2 : x_S}
theorem r_agree (hE : x_X V own cc nL ret d MC MS nm Q E) (h1 : S.1 = S2.1) (h2 : S.2.1 = S2.2.1) (h3 : ∀ h ∈ S.2.1, S.2.2 h = S2.2.2 h) (kk : E ce sl pc ls st S2) : E ce sl pc ls st S := by
  obtain ⟨p, e, R, s, m, args, below, meth, c, QW, hf, rfl, hret⟩ := hE
  intro H locs arr hH hS hl
  refine kk H locs arr ?_ hS hl
  obtain ⟨g1, g2, g3, g4, g5⟩ := hH
  have hw : x_ws V S2 = x_ws V S := by
    unfold x_ws
    rw [← h2]
    exact List.map_congr_left (fun h hh => by rw [h3 h hh])
  exact ⟨by rw [← h1]; exact g1, by rw [← h1]; exact g2, by rw [hw]; exact g3, by rw [← h2]; exact g4, fun h hh => by rw [← h1]; exact g5 h (by rw [h2]; exact hh)⟩
end R21
