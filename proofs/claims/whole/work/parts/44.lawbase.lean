abbrev bc_W_law : ByteArray := code
