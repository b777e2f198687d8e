section

end
