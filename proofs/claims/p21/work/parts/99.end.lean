theorem mx_end : True := trivial
